theorem dJ13_bitCount_95d88_0 : decode cJ13_bitCount_95d88 0 = .ok (.lload_n 0, 1) := by decide +kernel
theorem dJ13_bitCount_95d88_1 : decode cJ13_bitCount_95d88 1 = .ok (.lload_n 0, 1) := by decide +kernel
theorem dJ13_bitCount_95d88_2 : decode cJ13_bitCount_95d88 2 = .ok (.iconst 1, 1) := by decide +kernel
theorem dJ13_bitCount_95d88_3 : decode cJ13_bitCount_95d88 3 = .ok (.lushr, 1) := by decide +kernel
theorem dJ13_bitCount_95d88_4 : decode cJ13_bitCount_95d88 4 = .ok (.ldc2_w 314, 3) := by decide +kernel
theorem dJ13_bitCount_95d88_7 : decode cJ13_bitCount_95d88 7 = .ok (.land, 1) := by decide +kernel
theorem dJ13_bitCount_95d88_8 : decode cJ13_bitCount_95d88 8 = .ok (.lsub, 1) := by decide +kernel
theorem dJ13_bitCount_95d88_9 : decode cJ13_bitCount_95d88 9 = .ok (.lstore_n 0, 1) := by decide +kernel
theorem dJ13_bitCount_95d88_10 : decode cJ13_bitCount_95d88 10 = .ok (.lload_n 0, 1) := by decide +kernel
theorem dJ13_bitCount_95d88_11 : decode cJ13_bitCount_95d88 11 = .ok (.ldc2_w 316, 3) := by decide +kernel
theorem dJ13_bitCount_95d88_14 : decode cJ13_bitCount_95d88 14 = .ok (.land, 1) := by decide +kernel
theorem dJ13_bitCount_95d88_15 : decode cJ13_bitCount_95d88 15 = .ok (.lload_n 0, 1) := by decide +kernel
theorem dJ13_bitCount_95d88_16 : decode cJ13_bitCount_95d88 16 = .ok (.iconst 2, 1) := by decide +kernel
theorem dJ13_bitCount_95d88_17 : decode cJ13_bitCount_95d88 17 = .ok (.lushr, 1) := by decide +kernel
theorem dJ13_bitCount_95d88_18 : decode cJ13_bitCount_95d88 18 = .ok (.ldc2_w 316, 3) := by decide +kernel
theorem dJ13_bitCount_95d88_21 : decode cJ13_bitCount_95d88 21 = .ok (.land, 1) := by decide +kernel
theorem dJ13_bitCount_95d88_22 : decode cJ13_bitCount_95d88 22 = .ok (.ladd, 1) := by decide +kernel
theorem dJ13_bitCount_95d88_23 : decode cJ13_bitCount_95d88 23 = .ok (.lstore_n 0, 1) := by decide +kernel
theorem dJ13_bitCount_95d88_24 : decode cJ13_bitCount_95d88 24 = .ok (.lload_n 0, 1) := by decide +kernel
theorem dJ13_bitCount_95d88_25 : decode cJ13_bitCount_95d88 25 = .ok (.lload_n 0, 1) := by decide +kernel
theorem dJ13_bitCount_95d88_26 : decode cJ13_bitCount_95d88 26 = .ok (.iconst 4, 1) := by decide +kernel
theorem dJ13_bitCount_95d88_27 : decode cJ13_bitCount_95d88 27 = .ok (.lushr, 1) := by decide +kernel
theorem dJ13_bitCount_95d88_28 : decode cJ13_bitCount_95d88 28 = .ok (.ladd, 1) := by decide +kernel
theorem dJ13_bitCount_95d88_29 : decode cJ13_bitCount_95d88 29 = .ok (.ldc2_w 318, 3) := by decide +kernel
theorem dJ13_bitCount_95d88_32 : decode cJ13_bitCount_95d88 32 = .ok (.land, 1) := by decide +kernel
theorem dJ13_bitCount_95d88_33 : decode cJ13_bitCount_95d88 33 = .ok (.lstore_n 0, 1) := by decide +kernel
theorem dJ13_bitCount_95d88_34 : decode cJ13_bitCount_95d88 34 = .ok (.lload_n 0, 1) := by decide +kernel
theorem dJ13_bitCount_95d88_35 : decode cJ13_bitCount_95d88 35 = .ok (.lload_n 0, 1) := by decide +kernel
theorem dJ13_bitCount_95d88_36 : decode cJ13_bitCount_95d88 36 = .ok (.bipush 8, 2) := by decide +kernel
theorem dJ13_bitCount_95d88_38 : decode cJ13_bitCount_95d88 38 = .ok (.lushr, 1) := by decide +kernel
theorem dJ13_bitCount_95d88_39 : decode cJ13_bitCount_95d88 39 = .ok (.ladd, 1) := by decide +kernel
theorem dJ13_bitCount_95d88_40 : decode cJ13_bitCount_95d88 40 = .ok (.lstore_n 0, 1) := by decide +kernel
theorem dJ13_bitCount_95d88_41 : decode cJ13_bitCount_95d88 41 = .ok (.lload_n 0, 1) := by decide +kernel
theorem dJ13_bitCount_95d88_42 : decode cJ13_bitCount_95d88 42 = .ok (.lload_n 0, 1) := by decide +kernel
theorem dJ13_bitCount_95d88_43 : decode cJ13_bitCount_95d88 43 = .ok (.bipush 16, 2) := by decide +kernel
theorem dJ13_bitCount_95d88_45 : decode cJ13_bitCount_95d88 45 = .ok (.lushr, 1) := by decide +kernel
theorem dJ13_bitCount_95d88_46 : decode cJ13_bitCount_95d88 46 = .ok (.ladd, 1) := by decide +kernel
theorem dJ13_bitCount_95d88_47 : decode cJ13_bitCount_95d88 47 = .ok (.lstore_n 0, 1) := by decide +kernel
theorem dJ13_bitCount_95d88_48 : decode cJ13_bitCount_95d88 48 = .ok (.lload_n 0, 1) := by decide +kernel
theorem dJ13_bitCount_95d88_49 : decode cJ13_bitCount_95d88 49 = .ok (.lload_n 0, 1) := by decide +kernel
theorem dJ13_bitCount_95d88_50 : decode cJ13_bitCount_95d88 50 = .ok (.bipush 32, 2) := by decide +kernel
theorem dJ13_bitCount_95d88_52 : decode cJ13_bitCount_95d88 52 = .ok (.lushr, 1) := by decide +kernel
theorem dJ13_bitCount_95d88_53 : decode cJ13_bitCount_95d88 53 = .ok (.ladd, 1) := by decide +kernel
theorem dJ13_bitCount_95d88_54 : decode cJ13_bitCount_95d88 54 = .ok (.lstore_n 0, 1) := by decide +kernel
theorem dJ13_bitCount_95d88_55 : decode cJ13_bitCount_95d88 55 = .ok (.lload_n 0, 1) := by decide +kernel
theorem dJ13_bitCount_95d88_56 : decode cJ13_bitCount_95d88 56 = .ok (.l2i, 1) := by decide +kernel
theorem dJ13_bitCount_95d88_57 : decode cJ13_bitCount_95d88 57 = .ok (.bipush 127, 2) := by decide +kernel
theorem dJ13_bitCount_95d88_59 : decode cJ13_bitCount_95d88 59 = .ok (.iand, 1) := by decide +kernel
theorem dJ13_bitCount_95d88_60 : decode cJ13_bitCount_95d88 60 = .ok (.ireturn, 1) := by decide +kernel
theorem dJ6_bitCount_0f7a4_0 : decode cJ6_bitCount_0f7a4 0 = .ok (.iload_n 0, 1) := by decide +kernel
theorem dJ6_bitCount_0f7a4_1 : decode cJ6_bitCount_0f7a4 1 = .ok (.iload_n 0, 1) := by decide +kernel
theorem dJ6_bitCount_0f7a4_2 : decode cJ6_bitCount_0f7a4 2 = .ok (.iconst 1, 1) := by decide +kernel
theorem dJ6_bitCount_0f7a4_3 : decode cJ6_bitCount_0f7a4 3 = .ok (.iushr, 1) := by decide +kernel
theorem dJ6_bitCount_0f7a4_4 : decode cJ6_bitCount_0f7a4 4 = .ok (.ldc_w 265, 3) := by decide +kernel
theorem dJ6_bitCount_0f7a4_7 : decode cJ6_bitCount_0f7a4 7 = .ok (.iand, 1) := by decide +kernel
theorem dJ6_bitCount_0f7a4_8 : decode cJ6_bitCount_0f7a4 8 = .ok (.isub, 1) := by decide +kernel
theorem dJ6_bitCount_0f7a4_9 : decode cJ6_bitCount_0f7a4 9 = .ok (.istore_n 0, 1) := by decide +kernel
theorem dJ6_bitCount_0f7a4_10 : decode cJ6_bitCount_0f7a4 10 = .ok (.iload_n 0, 1) := by decide +kernel
theorem dJ6_bitCount_0f7a4_11 : decode cJ6_bitCount_0f7a4 11 = .ok (.ldc_w 266, 3) := by decide +kernel
theorem dJ6_bitCount_0f7a4_14 : decode cJ6_bitCount_0f7a4 14 = .ok (.iand, 1) := by decide +kernel
theorem dJ6_bitCount_0f7a4_15 : decode cJ6_bitCount_0f7a4 15 = .ok (.iload_n 0, 1) := by decide +kernel
theorem dJ6_bitCount_0f7a4_16 : decode cJ6_bitCount_0f7a4 16 = .ok (.iconst 2, 1) := by decide +kernel
theorem dJ6_bitCount_0f7a4_17 : decode cJ6_bitCount_0f7a4 17 = .ok (.iushr, 1) := by decide +kernel
theorem dJ6_bitCount_0f7a4_18 : decode cJ6_bitCount_0f7a4 18 = .ok (.ldc_w 266, 3) := by decide +kernel
theorem dJ6_bitCount_0f7a4_21 : decode cJ6_bitCount_0f7a4 21 = .ok (.iand, 1) := by decide +kernel
theorem dJ6_bitCount_0f7a4_22 : decode cJ6_bitCount_0f7a4 22 = .ok (.iadd, 1) := by decide +kernel
theorem dJ6_bitCount_0f7a4_23 : decode cJ6_bitCount_0f7a4 23 = .ok (.istore_n 0, 1) := by decide +kernel
theorem dJ6_bitCount_0f7a4_24 : decode cJ6_bitCount_0f7a4 24 = .ok (.iload_n 0, 1) := by decide +kernel
theorem dJ6_bitCount_0f7a4_25 : decode cJ6_bitCount_0f7a4 25 = .ok (.iload_n 0, 1) := by decide +kernel
theorem dJ6_bitCount_0f7a4_26 : decode cJ6_bitCount_0f7a4 26 = .ok (.iconst 4, 1) := by decide +kernel
theorem dJ6_bitCount_0f7a4_27 : decode cJ6_bitCount_0f7a4 27 = .ok (.iushr, 1) := by decide +kernel
theorem dJ6_bitCount_0f7a4_28 : decode cJ6_bitCount_0f7a4 28 = .ok (.iadd, 1) := by decide +kernel
theorem dJ6_bitCount_0f7a4_29 : decode cJ6_bitCount_0f7a4 29 = .ok (.ldc_w 267, 3) := by decide +kernel
theorem dJ6_bitCount_0f7a4_32 : decode cJ6_bitCount_0f7a4 32 = .ok (.iand, 1) := by decide +kernel
theorem dJ6_bitCount_0f7a4_33 : decode cJ6_bitCount_0f7a4 33 = .ok (.istore_n 0, 1) := by decide +kernel
theorem dJ6_bitCount_0f7a4_34 : decode cJ6_bitCount_0f7a4 34 = .ok (.iload_n 0, 1) := by decide +kernel
theorem dJ6_bitCount_0f7a4_35 : decode cJ6_bitCount_0f7a4 35 = .ok (.iload_n 0, 1) := by decide +kernel
theorem dJ6_bitCount_0f7a4_36 : decode cJ6_bitCount_0f7a4 36 = .ok (.bipush 8, 2) := by decide +kernel
theorem dJ6_bitCount_0f7a4_38 : decode cJ6_bitCount_0f7a4 38 = .ok (.iushr, 1) := by decide +kernel
theorem dJ6_bitCount_0f7a4_39 : decode cJ6_bitCount_0f7a4 39 = .ok (.iadd, 1) := by decide +kernel
theorem dJ6_bitCount_0f7a4_40 : decode cJ6_bitCount_0f7a4 40 = .ok (.istore_n 0, 1) := by decide +kernel
theorem dJ6_bitCount_0f7a4_41 : decode cJ6_bitCount_0f7a4 41 = .ok (.iload_n 0, 1) := by decide +kernel
theorem dJ6_bitCount_0f7a4_42 : decode cJ6_bitCount_0f7a4 42 = .ok (.iload_n 0, 1) := by decide +kernel
theorem dJ6_bitCount_0f7a4_43 : decode cJ6_bitCount_0f7a4 43 = .ok (.bipush 16, 2) := by decide +kernel
theorem dJ6_bitCount_0f7a4_45 : decode cJ6_bitCount_0f7a4 45 = .ok (.iushr, 1) := by decide +kernel
theorem dJ6_bitCount_0f7a4_46 : decode cJ6_bitCount_0f7a4 46 = .ok (.iadd, 1) := by decide +kernel
theorem dJ6_bitCount_0f7a4_47 : decode cJ6_bitCount_0f7a4 47 = .ok (.istore_n 0, 1) := by decide +kernel
theorem dJ6_bitCount_0f7a4_48 : decode cJ6_bitCount_0f7a4 48 = .ok (.iload_n 0, 1) := by decide +kernel
theorem dJ6_bitCount_0f7a4_49 : decode cJ6_bitCount_0f7a4 49 = .ok (.bipush 63, 2) := by decide +kernel
theorem dJ6_bitCount_0f7a4_51 : decode cJ6_bitCount_0f7a4 51 = .ok (.iand, 1) := by decide +kernel
theorem dJ6_bitCount_0f7a4_52 : decode cJ6_bitCount_0f7a4 52 = .ok (.ireturn, 1) := by decide +kernel
theorem dJ9_abs_0f7a4_0 : decode cJ9_abs_0f7a4 0 = .ok (.iload_n 0, 1) := by decide +kernel
theorem dJ9_abs_0f7a4_1 : decode cJ9_abs_0f7a4 1 = .ok (.ifCond .ge 8, 3) := by decide +kernel
theorem dJ9_abs_0f7a4_4 : decode cJ9_abs_0f7a4 4 = .ok (.iload_n 0, 1) := by decide +kernel
theorem dJ9_abs_0f7a4_5 : decode cJ9_abs_0f7a4 5 = .ok (.ineg, 1) := by decide +kernel
theorem dJ9_abs_0f7a4_6 : decode cJ9_abs_0f7a4 6 = .ok (.goto 4, 3) := by decide +kernel
theorem dJ9_abs_0f7a4_9 : decode cJ9_abs_0f7a4 9 = .ok (.iload_n 0, 1) := by decide +kernel
theorem dJ9_abs_0f7a4_10 : decode cJ9_abs_0f7a4 10 = .ok (.ireturn, 1) := by decide +kernel
theorem dJ9_max_7cf53_0 : decode cJ9_max_7cf53 0 = .ok (.iload_n 0, 1) := by decide +kernel
theorem dJ9_max_7cf53_1 : decode cJ9_max_7cf53 1 = .ok (.iload_n 1, 1) := by decide +kernel
theorem dJ9_max_7cf53_2 : decode cJ9_max_7cf53 2 = .ok (.if_icmp .lt 7, 3) := by decide +kernel
theorem dJ9_max_7cf53_5 : decode cJ9_max_7cf53 5 = .ok (.iload_n 0, 1) := by decide +kernel
theorem dJ9_max_7cf53_6 : decode cJ9_max_7cf53 6 = .ok (.goto 4, 3) := by decide +kernel
theorem dJ9_max_7cf53_9 : decode cJ9_max_7cf53 9 = .ok (.iload_n 1, 1) := by decide +kernel
theorem dJ9_max_7cf53_10 : decode cJ9_max_7cf53 10 = .ok (.ireturn, 1) := by decide +kernel
theorem dJ9_min_7cf53_0 : decode cJ9_min_7cf53 0 = .ok (.iload_n 0, 1) := by decide +kernel
theorem dJ9_min_7cf53_1 : decode cJ9_min_7cf53 1 = .ok (.iload_n 1, 1) := by decide +kernel
theorem dJ9_min_7cf53_2 : decode cJ9_min_7cf53 2 = .ok (.if_icmp .gt 7, 3) := by decide +kernel
theorem dJ9_min_7cf53_5 : decode cJ9_min_7cf53 5 = .ok (.iload_n 0, 1) := by decide +kernel
theorem dJ9_min_7cf53_6 : decode cJ9_min_7cf53 6 = .ok (.goto 4, 3) := by decide +kernel
theorem dJ9_min_7cf53_9 : decode cJ9_min_7cf53 9 = .ok (.iload_n 1, 1) := by decide +kernel
theorem dJ9_min_7cf53_10 : decode cJ9_min_7cf53 10 = .ok (.ireturn, 1) := by decide +kernel
theorem dX0_areAlike_0 : decode cX0_areAlike 0 = .ok (.iconst 0, 1) := by decide +kernel
theorem dX0_areAlike_1 : decode cX0_areAlike 1 = .ok (.istore_n 3, 1) := by decide +kernel
theorem dX0_areAlike_2 : decode cX0_areAlike 2 = .ok (.iload_n 3, 1) := by decide +kernel
theorem dX0_areAlike_3 : decode cX0_areAlike 3 = .ok (.aload_n 0, 1) := by decide +kernel
theorem dX0_areAlike_4 : decode cX0_areAlike 4 = .ok (.getfield 25, 3) := by decide +kernel
theorem dX0_areAlike_7 : decode cX0_areAlike 7 = .ok (.getfield 29, 3) := by decide +kernel
theorem dX0_areAlike_10 : decode cX0_areAlike 10 = .ok (.if_icmp .ge 26, 3) := by decide +kernel
theorem dX0_areAlike_13 : decode cX0_areAlike 13 = .ok (.aload_n 0, 1) := by decide +kernel
theorem dX0_areAlike_14 : decode cX0_areAlike 14 = .ok (.iload_n 3, 1) := by decide +kernel
theorem dX0_areAlike_15 : decode cX0_areAlike 15 = .ok (.iload_n 1, 1) := by decide +kernel
theorem dX0_areAlike_16 : decode cX0_areAlike 16 = .ok (.invokevirtual 46, 3) := by decide +kernel
theorem dX0_areAlike_19 : decode cX0_areAlike 19 = .ok (.aload_n 0, 1) := by decide +kernel
theorem dX0_areAlike_20 : decode cX0_areAlike 20 = .ok (.iload_n 3, 1) := by decide +kernel
theorem dX0_areAlike_21 : decode cX0_areAlike 21 = .ok (.iload_n 2, 1) := by decide +kernel
theorem dX0_areAlike_22 : decode cX0_areAlike 22 = .ok (.invokevirtual 46, 3) := by decide +kernel
theorem dX0_areAlike_25 : decode cX0_areAlike 25 = .ok (.if_icmp .eq 5, 3) := by decide +kernel
theorem dX0_areAlike_28 : decode cX0_areAlike 28 = .ok (.iconst 0, 1) := by decide +kernel
theorem dX0_areAlike_29 : decode cX0_areAlike 29 = .ok (.ireturn, 1) := by decide +kernel
theorem dX0_areAlike_30 : decode cX0_areAlike 30 = .ok (.iinc 3 1, 3) := by decide +kernel
theorem dX0_areAlike_33 : decode cX0_areAlike 33 = .ok (.goto (-31), 3) := by decide +kernel
theorem dX0_areAlike_36 : decode cX0_areAlike 36 = .ok (.iconst 1, 1) := by decide +kernel
theorem dX0_areAlike_37 : decode cX0_areAlike 37 = .ok (.ireturn, 1) := by decide +kernel
theorem dX0_behindOf_0 : decode cX0_behindOf 0 = .ok (.aload_n 0, 1) := by decide +kernel
theorem dX0_behindOf_1 : decode cX0_behindOf 1 = .ok (.iload_n 1, 1) := by decide +kernel
theorem dX0_behindOf_2 : decode cX0_behindOf 2 = .ok (.iload_n 2, 1) := by decide +kernel
theorem dX0_behindOf_3 : decode cX0_behindOf 3 = .ok (.invokevirtual 46, 3) := by decide +kernel
theorem dX0_behindOf_6 : decode cX0_behindOf 6 = .ok (.istore_n 3, 1) := by decide +kernel
theorem dX0_behindOf_7 : decode cX0_behindOf 7 = .ok (.aload_n 0, 1) := by decide +kernel
theorem dX0_behindOf_8 : decode cX0_behindOf 8 = .ok (.getfield 25, 3) := by decide +kernel
theorem dX0_behindOf_11 : decode cX0_behindOf 11 = .ok (.iload_n 3, 1) := by decide +kernel
theorem dX0_behindOf_12 : decode cX0_behindOf 12 = .ok (.invokevirtual 60, 3) := by decide +kernel
theorem dX0_behindOf_15 : decode cX0_behindOf 15 = .ok (.ifCond .eq 15, 3) := by decide +kernel
theorem dX0_behindOf_18 : decode cX0_behindOf 18 = .ok (.aload_n 0, 1) := by decide +kernel
theorem dX0_behindOf_19 : decode cX0_behindOf 19 = .ok (.getfield 25, 3) := by decide +kernel
theorem dX0_behindOf_22 : decode cX0_behindOf 22 = .ok (.getfield 64, 3) := by decide +kernel
theorem dX0_behindOf_25 : decode cX0_behindOf 25 = .ok (.iload_n 3, 1) := by decide +kernel
theorem dX0_behindOf_26 : decode cX0_behindOf 26 = .ok (.iaload, 1) := by decide +kernel
theorem dX0_behindOf_27 : decode cX0_behindOf 27 = .ok (.goto 4, 3) := by decide +kernel
theorem dX0_behindOf_30 : decode cX0_behindOf 30 = .ok (.iconst (-1), 1) := by decide +kernel
theorem dX0_behindOf_31 : decode cX0_behindOf 31 = .ok (.ireturn, 1) := by decide +kernel
theorem dX0_bestSeat_0 : decode cX0_bestSeat 0 = .ok (.iconst (-1), 1) := by decide +kernel
theorem dX0_bestSeat_1 : decode cX0_bestSeat 1 = .ok (.istore_n 2, 1) := by decide +kernel
theorem dX0_bestSeat_2 : decode cX0_bestSeat 2 = .ok (.bipush 50, 2) := by decide +kernel
theorem dX0_bestSeat_4 : decode cX0_bestSeat 4 = .ok (.istore_n 3, 1) := by decide +kernel
theorem dX0_bestSeat_5 : decode cX0_bestSeat 5 = .ok (.iconst 0, 1) := by decide +kernel
theorem dX0_bestSeat_6 : decode cX0_bestSeat 6 = .ok (.istore 4, 2) := by decide +kernel
theorem dX0_bestSeat_8 : decode cX0_bestSeat 8 = .ok (.iload 4, 2) := by decide +kernel
theorem dX0_bestSeat_10 : decode cX0_bestSeat 10 = .ok (.aload_n 0, 1) := by decide +kernel
theorem dX0_bestSeat_11 : decode cX0_bestSeat 11 = .ok (.getfield 25, 3) := by decide +kernel
theorem dX0_bestSeat_14 : decode cX0_bestSeat 14 = .ok (.getfield 79, 3) := by decide +kernel
theorem dX0_bestSeat_17 : decode cX0_bestSeat 17 = .ok (.if_icmp .ge 68, 3) := by decide +kernel
theorem dX0_bestSeat_20 : decode cX0_bestSeat 20 = .ok (.iconst 0, 1) := by decide +kernel
theorem dX0_bestSeat_21 : decode cX0_bestSeat 21 = .ok (.istore 5, 2) := by decide +kernel
theorem dX0_bestSeat_23 : decode cX0_bestSeat 23 = .ok (.iload 5, 2) := by decide +kernel
theorem dX0_bestSeat_25 : decode cX0_bestSeat 25 = .ok (.aload_n 0, 1) := by decide +kernel
theorem dX0_bestSeat_26 : decode cX0_bestSeat 26 = .ok (.getfield 25, 3) := by decide +kernel
theorem dX0_bestSeat_29 : decode cX0_bestSeat 29 = .ok (.getfield 82, 3) := by decide +kernel
theorem dX0_bestSeat_32 : decode cX0_bestSeat 32 = .ok (.if_icmp .ge 47, 3) := by decide +kernel
theorem dX0_bestSeat_35 : decode cX0_bestSeat 35 = .ok (.aload_n 0, 1) := by decide +kernel
theorem dX0_bestSeat_36 : decode cX0_bestSeat 36 = .ok (.iload 4, 2) := by decide +kernel
theorem dX0_bestSeat_38 : decode cX0_bestSeat 38 = .ok (.iload 5, 2) := by decide +kernel
theorem dX0_bestSeat_40 : decode cX0_bestSeat 40 = .ok (.invokestatic 85, 3) := by decide +kernel
theorem dX0_bestSeat_43 : decode cX0_bestSeat 43 = .ok (.iload_n 1, 1) := by decide +kernel
theorem dX0_bestSeat_44 : decode cX0_bestSeat 44 = .ok (.invokevirtual 99, 3) := by decide +kernel
theorem dX0_bestSeat_47 : decode cX0_bestSeat 47 = .ok (.istore 6, 2) := by decide +kernel
theorem dX0_bestSeat_49 : decode cX0_bestSeat 49 = .ok (.iload 6, 2) := by decide +kernel
theorem dX0_bestSeat_51 : decode cX0_bestSeat 51 = .ok (.iconst (-1), 1) := by decide +kernel
theorem dX0_bestSeat_52 : decode cX0_bestSeat 52 = .ok (.if_icmp .eq 21, 3) := by decide +kernel
theorem dX0_bestSeat_55 : decode cX0_bestSeat 55 = .ok (.iload 6, 2) := by decide +kernel
theorem dX0_bestSeat_57 : decode cX0_bestSeat 57 = .ok (.iload_n 3, 1) := by decide +kernel
theorem dX0_bestSeat_58 : decode cX0_bestSeat 58 = .ok (.if_icmp .ge 15, 3) := by decide +kernel
theorem dX0_bestSeat_61 : decode cX0_bestSeat 61 = .ok (.iload 6, 2) := by decide +kernel
theorem dX0_bestSeat_63 : decode cX0_bestSeat 63 = .ok (.istore_n 3, 1) := by decide +kernel
theorem dX0_bestSeat_64 : decode cX0_bestSeat 64 = .ok (.iload 4, 2) := by decide +kernel
theorem dX0_bestSeat_66 : decode cX0_bestSeat 66 = .ok (.bipush 10, 2) := by decide +kernel
theorem dX0_bestSeat_68 : decode cX0_bestSeat 68 = .ok (.imul, 1) := by decide +kernel
theorem dX0_bestSeat_69 : decode cX0_bestSeat 69 = .ok (.iload 5, 2) := by decide +kernel
theorem dX0_bestSeat_71 : decode cX0_bestSeat 71 = .ok (.iadd, 1) := by decide +kernel
theorem dX0_bestSeat_72 : decode cX0_bestSeat 72 = .ok (.istore_n 2, 1) := by decide +kernel
theorem dX0_bestSeat_73 : decode cX0_bestSeat 73 = .ok (.iinc 5 1, 3) := by decide +kernel
theorem dX0_bestSeat_76 : decode cX0_bestSeat 76 = .ok (.goto (-53), 3) := by decide +kernel
theorem dX0_bestSeat_79 : decode cX0_bestSeat 79 = .ok (.iinc 4 1, 3) := by decide +kernel
theorem dX0_bestSeat_82 : decode cX0_bestSeat 82 = .ok (.goto (-74), 3) := by decide +kernel
theorem dX0_bestSeat_85 : decode cX0_bestSeat 85 = .ok (.iload_n 2, 1) := by decide +kernel
theorem dX0_bestSeat_86 : decode cX0_bestSeat 86 = .ok (.ireturn, 1) := by decide +kernel
theorem dX0_doubledPlaces_0 : decode cX0_doubledPlaces 0 = .ok (.iconst 0, 1) := by decide +kernel
theorem dX0_doubledPlaces_1 : decode cX0_doubledPlaces 1 = .ok (.istore_n 2, 1) := by decide +kernel
theorem dX0_doubledPlaces_2 : decode cX0_doubledPlaces 2 = .ok (.iconst 0, 1) := by decide +kernel
theorem dX0_doubledPlaces_3 : decode cX0_doubledPlaces 3 = .ok (.istore_n 3, 1) := by decide +kernel
theorem dX0_doubledPlaces_4 : decode cX0_doubledPlaces 4 = .ok (.iconst 0, 1) := by decide +kernel
theorem dX0_doubledPlaces_5 : decode cX0_doubledPlaces 5 = .ok (.istore 4, 2) := by decide +kernel
theorem dX0_doubledPlaces_7 : decode cX0_doubledPlaces 7 = .ok (.iload 4, 2) := by decide +kernel
theorem dX0_doubledPlaces_9 : decode cX0_doubledPlaces 9 = .ok (.aload_n 0, 1) := by decide +kernel
theorem dX0_doubledPlaces_10 : decode cX0_doubledPlaces 10 = .ok (.getfield 25, 3) := by decide +kernel
theorem dX0_doubledPlaces_13 : decode cX0_doubledPlaces 13 = .ok (.getfield 29, 3) := by decide +kernel
theorem dX0_doubledPlaces_16 : decode cX0_doubledPlaces 16 = .ok (.if_icmp .ge 33, 3) := by decide +kernel
theorem dX0_doubledPlaces_19 : decode cX0_doubledPlaces 19 = .ok (.aload_n 0, 1) := by decide +kernel
theorem dX0_doubledPlaces_20 : decode cX0_doubledPlaces 20 = .ok (.iload 4, 2) := by decide +kernel
theorem dX0_doubledPlaces_22 : decode cX0_doubledPlaces 22 = .ok (.iload_n 1, 1) := by decide +kernel
theorem dX0_doubledPlaces_23 : decode cX0_doubledPlaces 23 = .ok (.invokevirtual 46, 3) := by decide +kernel
theorem dX0_doubledPlaces_26 : decode cX0_doubledPlaces 26 = .ok (.invokestatic 50, 3) := by decide +kernel
theorem dX0_doubledPlaces_29 : decode cX0_doubledPlaces 29 = .ok (.istore 5, 2) := by decide +kernel
theorem dX0_doubledPlaces_31 : decode cX0_doubledPlaces 31 = .ok (.iload_n 3, 1) := by decide +kernel
theorem dX0_doubledPlaces_32 : decode cX0_doubledPlaces 32 = .ok (.iload_n 2, 1) := by decide +kernel
theorem dX0_doubledPlaces_33 : decode cX0_doubledPlaces 33 = .ok (.iload 5, 2) := by decide +kernel
theorem dX0_doubledPlaces_35 : decode cX0_doubledPlaces 35 = .ok (.iand, 1) := by decide +kernel
theorem dX0_doubledPlaces_36 : decode cX0_doubledPlaces 36 = .ok (.ior, 1) := by decide +kernel
theorem dX0_doubledPlaces_37 : decode cX0_doubledPlaces 37 = .ok (.istore_n 3, 1) := by decide +kernel
theorem dX0_doubledPlaces_38 : decode cX0_doubledPlaces 38 = .ok (.iload_n 2, 1) := by decide +kernel
theorem dX0_doubledPlaces_39 : decode cX0_doubledPlaces 39 = .ok (.iload 5, 2) := by decide +kernel
theorem dX0_doubledPlaces_41 : decode cX0_doubledPlaces 41 = .ok (.ior, 1) := by decide +kernel
theorem dX0_doubledPlaces_42 : decode cX0_doubledPlaces 42 = .ok (.istore_n 2, 1) := by decide +kernel
theorem dX0_doubledPlaces_43 : decode cX0_doubledPlaces 43 = .ok (.iinc 4 1, 3) := by decide +kernel
theorem dX0_doubledPlaces_46 : decode cX0_doubledPlaces 46 = .ok (.goto (-39), 3) := by decide +kernel
theorem dX0_doubledPlaces_49 : decode cX0_doubledPlaces 49 = .ok (.iload_n 3, 1) := by decide +kernel
theorem dX0_doubledPlaces_50 : decode cX0_doubledPlaces 50 = .ok (.ireturn, 1) := by decide +kernel
theorem dX0_exitsAt_0 : decode cX0_exitsAt 0 = .ok (.iconst 0, 1) := by decide +kernel
theorem dX0_exitsAt_1 : decode cX0_exitsAt 1 = .ok (.istore_n 3, 1) := by decide +kernel
theorem dX0_exitsAt_2 : decode cX0_exitsAt 2 = .ok (.iconst 0, 1) := by decide +kernel
theorem dX0_exitsAt_3 : decode cX0_exitsAt 3 = .ok (.istore 4, 2) := by decide +kernel
theorem dX0_exitsAt_5 : decode cX0_exitsAt 5 = .ok (.iload 4, 2) := by decide +kernel
theorem dX0_exitsAt_7 : decode cX0_exitsAt 7 = .ok (.aload_n 0, 1) := by decide +kernel
theorem dX0_exitsAt_8 : decode cX0_exitsAt 8 = .ok (.getfield 25, 3) := by decide +kernel
theorem dX0_exitsAt_11 : decode cX0_exitsAt 11 = .ok (.getfield 29, 3) := by decide +kernel
theorem dX0_exitsAt_14 : decode cX0_exitsAt 14 = .ok (.if_icmp .ge 28, 3) := by decide +kernel
theorem dX0_exitsAt_17 : decode cX0_exitsAt 17 = .ok (.aload_n 0, 1) := by decide +kernel
theorem dX0_exitsAt_18 : decode cX0_exitsAt 18 = .ok (.iload 4, 2) := by decide +kernel
theorem dX0_exitsAt_20 : decode cX0_exitsAt 20 = .ok (.iload_n 2, 1) := by decide +kernel
theorem dX0_exitsAt_21 : decode cX0_exitsAt 21 = .ok (.invokevirtual 46, 3) := by decide +kernel
theorem dX0_exitsAt_24 : decode cX0_exitsAt 24 = .ok (.iload_n 1, 1) := by decide +kernel
theorem dX0_exitsAt_25 : decode cX0_exitsAt 25 = .ok (.if_icmp .ne 11, 3) := by decide +kernel
theorem dX0_exitsAt_28 : decode cX0_exitsAt 28 = .ok (.iload_n 3, 1) := by decide +kernel
theorem dX0_exitsAt_29 : decode cX0_exitsAt 29 = .ok (.iload 4, 2) := by decide +kernel
theorem dX0_exitsAt_31 : decode cX0_exitsAt 31 = .ok (.invokestatic 50, 3) := by decide +kernel
theorem dX0_exitsAt_34 : decode cX0_exitsAt 34 = .ok (.ior, 1) := by decide +kernel
theorem dX0_exitsAt_35 : decode cX0_exitsAt 35 = .ok (.istore_n 3, 1) := by decide +kernel
theorem dX0_exitsAt_36 : decode cX0_exitsAt 36 = .ok (.iinc 4 1, 3) := by decide +kernel
theorem dX0_exitsAt_39 : decode cX0_exitsAt 39 = .ok (.goto (-34), 3) := by decide +kernel
theorem dX0_exitsAt_42 : decode cX0_exitsAt 42 = .ok (.iload_n 3, 1) := by decide +kernel
theorem dX0_exitsAt_43 : decode cX0_exitsAt 43 = .ok (.ireturn, 1) := by decide +kernel
theorem dX0_exitsTo_0 : decode cX0_exitsTo 0 = .ok (.iconst 0, 1) := by decide +kernel
theorem dX0_exitsTo_1 : decode cX0_exitsTo 1 = .ok (.istore_n 3, 1) := by decide +kernel
theorem dX0_exitsTo_2 : decode cX0_exitsTo 2 = .ok (.iconst 0, 1) := by decide +kernel
theorem dX0_exitsTo_3 : decode cX0_exitsTo 3 = .ok (.istore 4, 2) := by decide +kernel
theorem dX0_exitsTo_5 : decode cX0_exitsTo 5 = .ok (.iload 4, 2) := by decide +kernel
theorem dX0_exitsTo_7 : decode cX0_exitsTo 7 = .ok (.aload_n 0, 1) := by decide +kernel
theorem dX0_exitsTo_8 : decode cX0_exitsTo 8 = .ok (.getfield 25, 3) := by decide +kernel
theorem dX0_exitsTo_11 : decode cX0_exitsTo 11 = .ok (.getfield 29, 3) := by decide +kernel
theorem dX0_exitsTo_14 : decode cX0_exitsTo 14 = .ok (.if_icmp .ge 28, 3) := by decide +kernel
theorem dX0_exitsTo_17 : decode cX0_exitsTo 17 = .ok (.aload_n 0, 1) := by decide +kernel
theorem dX0_exitsTo_18 : decode cX0_exitsTo 18 = .ok (.iload 4, 2) := by decide +kernel
theorem dX0_exitsTo_20 : decode cX0_exitsTo 20 = .ok (.iload_n 2, 1) := by decide +kernel
theorem dX0_exitsTo_21 : decode cX0_exitsTo 21 = .ok (.invokevirtual 70, 3) := by decide +kernel
theorem dX0_exitsTo_24 : decode cX0_exitsTo 24 = .ok (.iload_n 1, 1) := by decide +kernel
theorem dX0_exitsTo_25 : decode cX0_exitsTo 25 = .ok (.if_icmp .ne 11, 3) := by decide +kernel
theorem dX0_exitsTo_28 : decode cX0_exitsTo 28 = .ok (.iload_n 3, 1) := by decide +kernel
theorem dX0_exitsTo_29 : decode cX0_exitsTo 29 = .ok (.iload 4, 2) := by decide +kernel
theorem dX0_exitsTo_31 : decode cX0_exitsTo 31 = .ok (.invokestatic 50, 3) := by decide +kernel
theorem dX0_exitsTo_34 : decode cX0_exitsTo 34 = .ok (.ior, 1) := by decide +kernel
theorem dX0_exitsTo_35 : decode cX0_exitsTo 35 = .ok (.istore_n 3, 1) := by decide +kernel
theorem dX0_exitsTo_36 : decode cX0_exitsTo 36 = .ok (.iinc 4 1, 3) := by decide +kernel
theorem dX0_exitsTo_39 : decode cX0_exitsTo 39 = .ok (.goto (-34), 3) := by decide +kernel
theorem dX0_exitsTo_42 : decode cX0_exitsTo 42 = .ok (.iload_n 3, 1) := by decide +kernel
theorem dX0_exitsTo_43 : decode cX0_exitsTo 43 = .ok (.ireturn, 1) := by decide +kernel
theorem dX0_fallsTo_0 : decode cX0_fallsTo 0 = .ok (.aload_n 0, 1) := by decide +kernel
theorem dX0_fallsTo_1 : decode cX0_fallsTo 1 = .ok (.getfield 22, 3) := by decide +kernel
theorem dX0_fallsTo_4 : decode cX0_fallsTo 4 = .ok (.aload_n 0, 1) := by decide +kernel
theorem dX0_fallsTo_5 : decode cX0_fallsTo 5 = .ok (.iload_n 1, 1) := by decide +kernel
theorem dX0_fallsTo_6 : decode cX0_fallsTo 6 = .ok (.iload_n 2, 1) := by decide +kernel
theorem dX0_fallsTo_7 : decode cX0_fallsTo 7 = .ok (.invokevirtual 96, 3) := by decide +kernel
theorem dX0_fallsTo_10 : decode cX0_fallsTo 10 = .ok (.iaload, 1) := by decide +kernel
theorem dX0_fallsTo_11 : decode cX0_fallsTo 11 = .ok (.ireturn, 1) := by decide +kernel
theorem dX0_farthestSteps_0 : decode cX0_farthestSteps 0 = .ok (.iconst (-1), 1) := by decide +kernel
theorem dX0_farthestSteps_1 : decode cX0_farthestSteps 1 = .ok (.istore_n 2, 1) := by decide +kernel
theorem dX0_farthestSteps_2 : decode cX0_farthestSteps 2 = .ok (.iconst 0, 1) := by decide +kernel
theorem dX0_farthestSteps_3 : decode cX0_farthestSteps 3 = .ok (.istore_n 3, 1) := by decide +kernel
theorem dX0_farthestSteps_4 : decode cX0_farthestSteps 4 = .ok (.iload_n 3, 1) := by decide +kernel
theorem dX0_farthestSteps_5 : decode cX0_farthestSteps 5 = .ok (.aload_n 0, 1) := by decide +kernel
theorem dX0_farthestSteps_6 : decode cX0_farthestSteps 6 = .ok (.getfield 25, 3) := by decide +kernel
theorem dX0_farthestSteps_9 : decode cX0_farthestSteps 9 = .ok (.getfield 79, 3) := by decide +kernel
theorem dX0_farthestSteps_12 : decode cX0_farthestSteps 12 = .ok (.if_icmp .ge 46, 3) := by decide +kernel
theorem dX0_farthestSteps_15 : decode cX0_farthestSteps 15 = .ok (.iconst 0, 1) := by decide +kernel
theorem dX0_farthestSteps_16 : decode cX0_farthestSteps 16 = .ok (.istore 4, 2) := by decide +kernel
theorem dX0_farthestSteps_18 : decode cX0_farthestSteps 18 = .ok (.iload 4, 2) := by decide +kernel
theorem dX0_farthestSteps_20 : decode cX0_farthestSteps 20 = .ok (.aload_n 0, 1) := by decide +kernel
theorem dX0_farthestSteps_21 : decode cX0_farthestSteps 21 = .ok (.getfield 25, 3) := by decide +kernel
theorem dX0_farthestSteps_24 : decode cX0_farthestSteps 24 = .ok (.getfield 82, 3) := by decide +kernel
theorem dX0_farthestSteps_27 : decode cX0_farthestSteps 27 = .ok (.if_icmp .ge 25, 3) := by decide +kernel
theorem dX0_farthestSteps_30 : decode cX0_farthestSteps 30 = .ok (.iload_n 2, 1) := by decide +kernel
theorem dX0_farthestSteps_31 : decode cX0_farthestSteps 31 = .ok (.aload_n 0, 1) := by decide +kernel
theorem dX0_farthestSteps_32 : decode cX0_farthestSteps 32 = .ok (.iload_n 3, 1) := by decide +kernel
theorem dX0_farthestSteps_33 : decode cX0_farthestSteps 33 = .ok (.iload 4, 2) := by decide +kernel
theorem dX0_farthestSteps_35 : decode cX0_farthestSteps 35 = .ok (.invokestatic 85, 3) := by decide +kernel
theorem dX0_farthestSteps_38 : decode cX0_farthestSteps 38 = .ok (.iload_n 1, 1) := by decide +kernel
theorem dX0_farthestSteps_39 : decode cX0_farthestSteps 39 = .ok (.invokevirtual 99, 3) := by decide +kernel
theorem dX0_farthestSteps_42 : decode cX0_farthestSteps 42 = .ok (.invokestatic 102, 3) := by decide +kernel
theorem dX0_farthestSteps_45 : decode cX0_farthestSteps 45 = .ok (.istore_n 2, 1) := by decide +kernel
theorem dX0_farthestSteps_46 : decode cX0_farthestSteps 46 = .ok (.iinc 4 1, 3) := by decide +kernel
theorem dX0_farthestSteps_49 : decode cX0_farthestSteps 49 = .ok (.goto (-31), 3) := by decide +kernel
theorem dX0_farthestSteps_52 : decode cX0_farthestSteps 52 = .ok (.iinc 3 1, 3) := by decide +kernel
theorem dX0_farthestSteps_55 : decode cX0_farthestSteps 55 = .ok (.goto (-51), 3) := by decide +kernel
theorem dX0_farthestSteps_58 : decode cX0_farthestSteps 58 = .ok (.iload_n 2, 1) := by decide +kernel
theorem dX0_farthestSteps_59 : decode cX0_farthestSteps 59 = .ok (.ireturn, 1) := by decide +kernel
theorem dX0_goesTillOut_0 : decode cX0_goesTillOut 0 = .ok (.aload_n 0, 1) := by decide +kernel
theorem dX0_goesTillOut_1 : decode cX0_goesTillOut 1 = .ok (.getfield 25, 3) := by decide +kernel
theorem dX0_goesTillOut_4 : decode cX0_goesTillOut 4 = .ok (.iload_n 1, 1) := by decide +kernel
theorem dX0_goesTillOut_5 : decode cX0_goesTillOut 5 = .ok (.invokevirtual 126, 3) := by decide +kernel
theorem dX0_goesTillOut_8 : decode cX0_goesTillOut 8 = .ok (.ifCond .eq 13, 3) := by decide +kernel
theorem dX0_goesTillOut_11 : decode cX0_goesTillOut 11 = .ok (.aload_n 0, 1) := by decide +kernel
theorem dX0_goesTillOut_12 : decode cX0_goesTillOut 12 = .ok (.getfield 25, 3) := by decide +kernel
theorem dX0_goesTillOut_15 : decode cX0_goesTillOut 15 = .ok (.getfield 29, 3) := by decide +kernel
theorem dX0_goesTillOut_18 : decode cX0_goesTillOut 18 = .ok (.ifCond .gt 5, 3) := by decide +kernel
theorem dX0_goesTillOut_21 : decode cX0_goesTillOut 21 = .ok (.iconst (-1), 1) := by decide +kernel
theorem dX0_goesTillOut_22 : decode cX0_goesTillOut 22 = .ok (.ireturn, 1) := by decide +kernel
theorem dX0_goesTillOut_23 : decode cX0_goesTillOut 23 = .ok (.iconst 0, 1) := by decide +kernel
theorem dX0_goesTillOut_24 : decode cX0_goesTillOut 24 = .ok (.istore_n 3, 1) := by decide +kernel
theorem dX0_goesTillOut_25 : decode cX0_goesTillOut 25 = .ok (.iload_n 3, 1) := by decide +kernel
theorem dX0_goesTillOut_26 : decode cX0_goesTillOut 26 = .ok (.bipush 60, 2) := by decide +kernel
theorem dX0_goesTillOut_28 : decode cX0_goesTillOut 28 = .ok (.if_icmp .ge 35, 3) := by decide +kernel
theorem dX0_goesTillOut_31 : decode cX0_goesTillOut 31 = .ok (.aload_n 0, 1) := by decide +kernel
theorem dX0_goesTillOut_32 : decode cX0_goesTillOut 32 = .ok (.iload_n 1, 1) := by decide +kernel
theorem dX0_goesTillOut_33 : decode cX0_goesTillOut 33 = .ok (.iload_n 3, 1) := by decide +kernel
theorem dX0_goesTillOut_34 : decode cX0_goesTillOut 34 = .ok (.iadd, 1) := by decide +kernel
theorem dX0_goesTillOut_35 : decode cX0_goesTillOut 35 = .ok (.aload_n 0, 1) := by decide +kernel
theorem dX0_goesTillOut_36 : decode cX0_goesTillOut 36 = .ok (.getfield 25, 3) := by decide +kernel
theorem dX0_goesTillOut_39 : decode cX0_goesTillOut 39 = .ok (.getfield 29, 3) := by decide +kernel
theorem dX0_goesTillOut_42 : decode cX0_goesTillOut 42 = .ok (.irem, 1) := by decide +kernel
theorem dX0_goesTillOut_43 : decode cX0_goesTillOut 43 = .ok (.iload_n 2, 1) := by decide +kernel
theorem dX0_goesTillOut_44 : decode cX0_goesTillOut 44 = .ok (.iload_n 3, 1) := by decide +kernel
theorem dX0_goesTillOut_45 : decode cX0_goesTillOut 45 = .ok (.iadd, 1) := by decide +kernel
theorem dX0_goesTillOut_46 : decode cX0_goesTillOut 46 = .ok (.bipush 60, 2) := by decide +kernel
theorem dX0_goesTillOut_48 : decode cX0_goesTillOut 48 = .ok (.irem, 1) := by decide +kernel
theorem dX0_goesTillOut_49 : decode cX0_goesTillOut 49 = .ok (.invokevirtual 129, 3) := by decide +kernel
theorem dX0_goesTillOut_52 : decode cX0_goesTillOut 52 = .ok (.ifCond .eq 5, 3) := by decide +kernel
theorem dX0_goesTillOut_55 : decode cX0_goesTillOut 55 = .ok (.iload_n 3, 1) := by decide +kernel
theorem dX0_goesTillOut_56 : decode cX0_goesTillOut 56 = .ok (.ireturn, 1) := by decide +kernel
theorem dX0_goesTillOut_57 : decode cX0_goesTillOut 57 = .ok (.iinc 3 1, 3) := by decide +kernel
theorem dX0_goesTillOut_60 : decode cX0_goesTillOut 60 = .ok (.goto (-35), 3) := by decide +kernel
theorem dX0_goesTillOut_63 : decode cX0_goesTillOut 63 = .ok (.iconst (-1), 1) := by decide +kernel
theorem dX0_goesTillOut_64 : decode cX0_goesTillOut 64 = .ok (.ireturn, 1) := by decide +kernel
theorem dX0_init_0 : decode cX0_init 0 = .ok (.aload_n 0, 1) := by decide +kernel
theorem dX0_init_1 : decode cX0_init 1 = .ok (.invokespecial 3, 3) := by decide +kernel
theorem dX0_init_4 : decode cX0_init 4 = .ok (.aload_n 0, 1) := by decide +kernel
theorem dX0_init_5 : decode cX0_init 5 = .ok (.sipush 420, 3) := by decide +kernel
theorem dX0_init_8 : decode cX0_init 8 = .ok (.newarray .int, 2) := by decide +kernel
theorem dX0_init_10 : decode cX0_init 10 = .ok (.putfield 9, 3) := by decide +kernel
theorem dX0_init_13 : decode cX0_init 13 = .ok (.aload_n 0, 1) := by decide +kernel
theorem dX0_init_14 : decode cX0_init 14 = .ok (.bipush 60, 2) := by decide +kernel
theorem dX0_init_16 : decode cX0_init 16 = .ok (.newarray .boolean, 2) := by decide +kernel
theorem dX0_init_18 : decode cX0_init 18 = .ok (.putfield 15, 3) := by decide +kernel
theorem dX0_init_21 : decode cX0_init 21 = .ok (.aload_n 0, 1) := by decide +kernel
theorem dX0_init_22 : decode cX0_init 22 = .ok (.sipush 2160, 3) := by decide +kernel
theorem dX0_init_25 : decode cX0_init 25 = .ok (.newarray .int, 2) := by decide +kernel
theorem dX0_init_27 : decode cX0_init 27 = .ok (.putfield 19, 3) := by decide +kernel
theorem dX0_init_30 : decode cX0_init 30 = .ok (.aload_n 0, 1) := by decide +kernel
theorem dX0_init_31 : decode cX0_init 31 = .ok (.sipush 2160, 3) := by decide +kernel
theorem dX0_init_34 : decode cX0_init 34 = .ok (.newarray .int, 2) := by decide +kernel
theorem dX0_init_36 : decode cX0_init 36 = .ok (.putfield 22, 3) := by decide +kernel
theorem dX0_init_39 : decode cX0_init 39 = .ok (.aload_n 0, 1) := by decide +kernel
theorem dX0_init_40 : decode cX0_init 40 = .ok (.aload_n 1, 1) := by decide +kernel
theorem dX0_init_41 : decode cX0_init 41 = .ok (.putfield 25, 3) := by decide +kernel
theorem dX0_init_44 : decode cX0_init 44 = .ok (.return_, 1) := by decide +kernel
theorem dX0_isDraught_0 : decode cX0_isDraught 0 = .ok (.iload_n 1, 1) := by decide +kernel
theorem dX0_isDraught_1 : decode cX0_isDraught 1 = .ok (.iload_n 2, 1) := by decide +kernel
theorem dX0_isDraught_2 : decode cX0_isDraught 2 = .ok (.if_icmp .eq 25, 3) := by decide +kernel
theorem dX0_isDraught_5 : decode cX0_isDraught 5 = .ok (.aload_n 0, 1) := by decide +kernel
theorem dX0_isDraught_6 : decode cX0_isDraught 6 = .ok (.getfield 25, 3) := by decide +kernel
theorem dX0_isDraught_9 : decode cX0_isDraught 9 = .ok (.iload_n 1, 1) := by decide +kernel
theorem dX0_isDraught_10 : decode cX0_isDraught 10 = .ok (.invokevirtual 60, 3) := by decide +kernel
theorem dX0_isDraught_13 : decode cX0_isDraught 13 = .ok (.ifCond .eq 14, 3) := by decide +kernel
theorem dX0_isDraught_16 : decode cX0_isDraught 16 = .ok (.aload_n 0, 1) := by decide +kernel
theorem dX0_isDraught_17 : decode cX0_isDraught 17 = .ok (.getfield 25, 3) := by decide +kernel
theorem dX0_isDraught_20 : decode cX0_isDraught 20 = .ok (.iload_n 2, 1) := by decide +kernel
theorem dX0_isDraught_21 : decode cX0_isDraught 21 = .ok (.invokevirtual 60, 3) := by decide +kernel
theorem dX0_isDraught_24 : decode cX0_isDraught 24 = .ok (.ifCond .ne 5, 3) := by decide +kernel
theorem dX0_isDraught_27 : decode cX0_isDraught 27 = .ok (.iconst 0, 1) := by decide +kernel
theorem dX0_isDraught_28 : decode cX0_isDraught 28 = .ok (.ireturn, 1) := by decide +kernel
theorem dX0_isDraught_29 : decode cX0_isDraught 29 = .ok (.aload_n 0, 1) := by decide +kernel
theorem dX0_isDraught_30 : decode cX0_isDraught 30 = .ok (.getfield 25, 3) := by decide +kernel
theorem dX0_isDraught_33 : decode cX0_isDraught 33 = .ok (.getfield 114, 3) := by decide +kernel
theorem dX0_isDraught_36 : decode cX0_isDraught 36 = .ok (.iload_n 1, 1) := by decide +kernel
theorem dX0_isDraught_37 : decode cX0_isDraught 37 = .ok (.iaload, 1) := by decide +kernel
theorem dX0_isDraught_38 : decode cX0_isDraught 38 = .ok (.aload_n 0, 1) := by decide +kernel
theorem dX0_isDraught_39 : decode cX0_isDraught 39 = .ok (.getfield 25, 3) := by decide +kernel
theorem dX0_isDraught_42 : decode cX0_isDraught 42 = .ok (.getfield 114, 3) := by decide +kernel
theorem dX0_isDraught_45 : decode cX0_isDraught 45 = .ok (.iload_n 2, 1) := by decide +kernel
theorem dX0_isDraught_46 : decode cX0_isDraught 46 = .ok (.iaload, 1) := by decide +kernel
theorem dX0_isDraught_47 : decode cX0_isDraught 47 = .ok (.if_icmp .eq 24, 3) := by decide +kernel
theorem dX0_isDraught_50 : decode cX0_isDraught 50 = .ok (.aload_n 0, 1) := by decide +kernel
theorem dX0_isDraught_51 : decode cX0_isDraught 51 = .ok (.getfield 25, 3) := by decide +kernel
theorem dX0_isDraught_54 : decode cX0_isDraught 54 = .ok (.getfield 117, 3) := by decide +kernel
theorem dX0_isDraught_57 : decode cX0_isDraught 57 = .ok (.iload_n 1, 1) := by decide +kernel
theorem dX0_isDraught_58 : decode cX0_isDraught 58 = .ok (.iaload, 1) := by decide +kernel
theorem dX0_isDraught_59 : decode cX0_isDraught 59 = .ok (.aload_n 0, 1) := by decide +kernel
theorem dX0_isDraught_60 : decode cX0_isDraught 60 = .ok (.getfield 25, 3) := by decide +kernel
theorem dX0_isDraught_63 : decode cX0_isDraught 63 = .ok (.getfield 117, 3) := by decide +kernel
theorem dX0_isDraught_66 : decode cX0_isDraught 66 = .ok (.iload_n 2, 1) := by decide +kernel
theorem dX0_isDraught_67 : decode cX0_isDraught 67 = .ok (.iaload, 1) := by decide +kernel
theorem dX0_isDraught_68 : decode cX0_isDraught 68 = .ok (.if_icmp .ne 7, 3) := by decide +kernel
theorem dX0_isDraught_71 : decode cX0_isDraught 71 = .ok (.iconst 1, 1) := by decide +kernel
theorem dX0_isDraught_72 : decode cX0_isDraught 72 = .ok (.goto 4, 3) := by decide +kernel
theorem dX0_isDraught_75 : decode cX0_isDraught 75 = .ok (.iconst 0, 1) := by decide +kernel
theorem dX0_isDraught_76 : decode cX0_isDraught 76 = .ok (.ireturn, 1) := by decide +kernel
theorem dX0_isGoodExit_0 : decode cX0_isGoodExit 0 = .ok (.aload_n 0, 1) := by decide +kernel
theorem dX0_isGoodExit_1 : decode cX0_isGoodExit 1 = .ok (.getfield 25, 3) := by decide +kernel
theorem dX0_isGoodExit_4 : decode cX0_isGoodExit 4 = .ok (.aload_n 0, 1) := by decide +kernel
theorem dX0_isGoodExit_5 : decode cX0_isGoodExit 5 = .ok (.iload_n 1, 1) := by decide +kernel
theorem dX0_isGoodExit_6 : decode cX0_isGoodExit 6 = .ok (.iload_n 2, 1) := by decide +kernel
theorem dX0_isGoodExit_7 : decode cX0_isGoodExit 7 = .ok (.invokevirtual 46, 3) := by decide +kernel
theorem dX0_isGoodExit_10 : decode cX0_isGoodExit 10 = .ok (.invokevirtual 67, 3) := by decide +kernel
theorem dX0_isGoodExit_13 : decode cX0_isGoodExit 13 = .ok (.ireturn, 1) := by decide +kernel
theorem dX0_isLawful_0 : decode cX0_isLawful 0 = .ok (.aload_n 0, 1) := by decide +kernel
theorem dX0_isLawful_1 : decode cX0_isLawful 1 = .ok (.iload_n 1, 1) := by decide +kernel
theorem dX0_isLawful_2 : decode cX0_isLawful 2 = .ok (.invokevirtual 105, 3) := by decide +kernel
theorem dX0_isLawful_5 : decode cX0_isLawful 5 = .ok (.istore_n 2, 1) := by decide +kernel
theorem dX0_isLawful_6 : decode cX0_isLawful 6 = .ok (.iload_n 2, 1) := by decide +kernel
theorem dX0_isLawful_7 : decode cX0_isLawful 7 = .ok (.iconst (-1), 1) := by decide +kernel
theorem dX0_isLawful_8 : decode cX0_isLawful 8 = .ok (.if_icmp .eq 18, 3) := by decide +kernel
theorem dX0_isLawful_11 : decode cX0_isLawful 11 = .ok (.iload_n 2, 1) := by decide +kernel
theorem dX0_isLawful_12 : decode cX0_isLawful 12 = .ok (.aload_n 0, 1) := by decide +kernel
theorem dX0_isLawful_13 : decode cX0_isLawful 13 = .ok (.getfield 25, 3) := by decide +kernel
theorem dX0_isLawful_16 : decode cX0_isLawful 16 = .ok (.getfield 108, 3) := by decide +kernel
theorem dX0_isLawful_19 : decode cX0_isLawful 19 = .ok (.if_icmp .gt 7, 3) := by decide +kernel
theorem dX0_isLawful_22 : decode cX0_isLawful 22 = .ok (.iconst 1, 1) := by decide +kernel
theorem dX0_isLawful_23 : decode cX0_isLawful 23 = .ok (.goto 4, 3) := by decide +kernel
theorem dX0_isLawful_26 : decode cX0_isLawful 26 = .ok (.iconst 0, 1) := by decide +kernel
theorem dX0_isLawful_27 : decode cX0_isLawful 27 = .ok (.ireturn, 1) := by decide +kernel
theorem dX0_isRepeated_0 : decode cX0_isRepeated 0 = .ok (.iconst 0, 1) := by decide +kernel
theorem dX0_isRepeated_1 : decode cX0_isRepeated 1 = .ok (.istore_n 2, 1) := by decide +kernel
theorem dX0_isRepeated_2 : decode cX0_isRepeated 2 = .ok (.iload_n 2, 1) := by decide +kernel
theorem dX0_isRepeated_3 : decode cX0_isRepeated 3 = .ok (.iload_n 1, 1) := by decide +kernel
theorem dX0_isRepeated_4 : decode cX0_isRepeated 4 = .ok (.if_icmp .ge 20, 3) := by decide +kernel
theorem dX0_isRepeated_7 : decode cX0_isRepeated 7 = .ok (.aload_n 0, 1) := by decide +kernel
theorem dX0_isRepeated_8 : decode cX0_isRepeated 8 = .ok (.iload_n 2, 1) := by decide +kernel
theorem dX0_isRepeated_9 : decode cX0_isRepeated 9 = .ok (.iload_n 1, 1) := by decide +kernel
theorem dX0_isRepeated_10 : decode cX0_isRepeated 10 = .ok (.invokevirtual 73, 3) := by decide +kernel
theorem dX0_isRepeated_13 : decode cX0_isRepeated 13 = .ok (.ifCond .eq 5, 3) := by decide +kernel
theorem dX0_isRepeated_16 : decode cX0_isRepeated 16 = .ok (.iconst 1, 1) := by decide +kernel
theorem dX0_isRepeated_17 : decode cX0_isRepeated 17 = .ok (.ireturn, 1) := by decide +kernel
theorem dX0_isRepeated_18 : decode cX0_isRepeated 18 = .ok (.iinc 2 1, 3) := by decide +kernel
theorem dX0_isRepeated_21 : decode cX0_isRepeated 21 = .ok (.goto (-19), 3) := by decide +kernel
theorem dX0_isRepeated_24 : decode cX0_isRepeated 24 = .ok (.iconst 0, 1) := by decide +kernel
theorem dX0_isRepeated_25 : decode cX0_isRepeated 25 = .ok (.ireturn, 1) := by decide +kernel
theorem dX0_luredTo_0 : decode cX0_luredTo 0 = .ok (.iconst 0, 1) := by decide +kernel
theorem dX0_luredTo_1 : decode cX0_luredTo 1 = .ok (.istore_n 3, 1) := by decide +kernel
theorem dX0_luredTo_2 : decode cX0_luredTo 2 = .ok (.iconst 0, 1) := by decide +kernel
theorem dX0_luredTo_3 : decode cX0_luredTo 3 = .ok (.istore 4, 2) := by decide +kernel
theorem dX0_luredTo_5 : decode cX0_luredTo 5 = .ok (.iload 4, 2) := by decide +kernel
theorem dX0_luredTo_7 : decode cX0_luredTo 7 = .ok (.bipush 36, 2) := by decide +kernel
theorem dX0_luredTo_9 : decode cX0_luredTo 9 = .ok (.if_icmp .ge 35, 3) := by decide +kernel
theorem dX0_luredTo_12 : decode cX0_luredTo 12 = .ok (.aload_n 0, 1) := by decide +kernel
theorem dX0_luredTo_13 : decode cX0_luredTo 13 = .ok (.getfield 25, 3) := by decide +kernel
theorem dX0_luredTo_16 : decode cX0_luredTo 16 = .ok (.iload 4, 2) := by decide +kernel
theorem dX0_luredTo_18 : decode cX0_luredTo 18 = .ok (.invokevirtual 120, 3) := by decide +kernel
theorem dX0_luredTo_21 : decode cX0_luredTo 21 = .ok (.ifCond .eq 17, 3) := by decide +kernel
theorem dX0_luredTo_24 : decode cX0_luredTo 24 = .ok (.aload_n 0, 1) := by decide +kernel
theorem dX0_luredTo_25 : decode cX0_luredTo 25 = .ok (.iload 4, 2) := by decide +kernel
theorem dX0_luredTo_27 : decode cX0_luredTo 27 = .ok (.iload_n 2, 1) := by decide +kernel
theorem dX0_luredTo_28 : decode cX0_luredTo 28 = .ok (.invokevirtual 123, 3) := by decide +kernel
theorem dX0_luredTo_31 : decode cX0_luredTo 31 = .ok (.iload_n 1, 1) := by decide +kernel
theorem dX0_luredTo_32 : decode cX0_luredTo 32 = .ok (.if_icmp .ne 6, 3) := by decide +kernel
theorem dX0_luredTo_35 : decode cX0_luredTo 35 = .ok (.iinc 3 1, 3) := by decide +kernel
theorem dX0_luredTo_38 : decode cX0_luredTo 38 = .ok (.iinc 4 1, 3) := by decide +kernel
theorem dX0_luredTo_41 : decode cX0_luredTo 41 = .ok (.goto (-36), 3) := by decide +kernel
theorem dX0_luredTo_44 : decode cX0_luredTo 44 = .ok (.iload_n 3, 1) := by decide +kernel
theorem dX0_luredTo_45 : decode cX0_luredTo 45 = .ok (.ireturn, 1) := by decide +kernel
theorem dX0_nearestGood_0 : decode cX0_nearestGood 0 = .ok (.aload_n 0, 1) := by decide +kernel
theorem dX0_nearestGood_1 : decode cX0_nearestGood 1 = .ok (.iload_n 1, 1) := by decide +kernel
theorem dX0_nearestGood_2 : decode cX0_nearestGood 2 = .ok (.iload_n 2, 1) := by decide +kernel
theorem dX0_nearestGood_3 : decode cX0_nearestGood 3 = .ok (.invokevirtual 99, 3) := by decide +kernel
theorem dX0_nearestGood_6 : decode cX0_nearestGood 6 = .ok (.istore_n 3, 1) := by decide +kernel
theorem dX0_nearestGood_7 : decode cX0_nearestGood 7 = .ok (.iconst 0, 1) := by decide +kernel
theorem dX0_nearestGood_8 : decode cX0_nearestGood 8 = .ok (.istore 4, 2) := by decide +kernel
theorem dX0_nearestGood_10 : decode cX0_nearestGood 10 = .ok (.iload 4, 2) := by decide +kernel
theorem dX0_nearestGood_12 : decode cX0_nearestGood 12 = .ok (.aload_n 0, 1) := by decide +kernel
theorem dX0_nearestGood_13 : decode cX0_nearestGood 13 = .ok (.getfield 25, 3) := by decide +kernel
theorem dX0_nearestGood_16 : decode cX0_nearestGood 16 = .ok (.getfield 29, 3) := by decide +kernel
theorem dX0_nearestGood_19 : decode cX0_nearestGood 19 = .ok (.if_icmp .ge 47, 3) := by decide +kernel
theorem dX0_nearestGood_22 : decode cX0_nearestGood 22 = .ok (.aload_n 0, 1) := by decide +kernel
theorem dX0_nearestGood_23 : decode cX0_nearestGood 23 = .ok (.iload 4, 2) := by decide +kernel
theorem dX0_nearestGood_25 : decode cX0_nearestGood 25 = .ok (.iload_n 2, 1) := by decide +kernel
theorem dX0_nearestGood_26 : decode cX0_nearestGood 26 = .ok (.invokevirtual 46, 3) := by decide +kernel
theorem dX0_nearestGood_29 : decode cX0_nearestGood 29 = .ok (.istore 5, 2) := by decide +kernel
theorem dX0_nearestGood_31 : decode cX0_nearestGood 31 = .ok (.aload_n 0, 1) := by decide +kernel
theorem dX0_nearestGood_32 : decode cX0_nearestGood 32 = .ok (.getfield 25, 3) := by decide +kernel
theorem dX0_nearestGood_35 : decode cX0_nearestGood 35 = .ok (.iload 5, 2) := by decide +kernel
theorem dX0_nearestGood_37 : decode cX0_nearestGood 37 = .ok (.invokevirtual 67, 3) := by decide +kernel
theorem dX0_nearestGood_40 : decode cX0_nearestGood 40 = .ok (.ifCond .eq 20, 3) := by decide +kernel
theorem dX0_nearestGood_43 : decode cX0_nearestGood 43 = .ok (.aload_n 0, 1) := by decide +kernel
theorem dX0_nearestGood_44 : decode cX0_nearestGood 44 = .ok (.getfield 25, 3) := by decide +kernel
theorem dX0_nearestGood_47 : decode cX0_nearestGood 47 = .ok (.iload_n 1, 1) := by decide +kernel
theorem dX0_nearestGood_48 : decode cX0_nearestGood 48 = .ok (.iload 5, 2) := by decide +kernel
theorem dX0_nearestGood_50 : decode cX0_nearestGood 50 = .ok (.invokevirtual 88, 3) := by decide +kernel
theorem dX0_nearestGood_53 : decode cX0_nearestGood 53 = .ok (.iload_n 3, 1) := by decide +kernel
theorem dX0_nearestGood_54 : decode cX0_nearestGood 54 = .ok (.if_icmp .ne 6, 3) := by decide +kernel
theorem dX0_nearestGood_57 : decode cX0_nearestGood 57 = .ok (.iload 4, 2) := by decide +kernel
theorem dX0_nearestGood_59 : decode cX0_nearestGood 59 = .ok (.ireturn, 1) := by decide +kernel
theorem dX0_nearestGood_60 : decode cX0_nearestGood 60 = .ok (.iinc 4 1, 3) := by decide +kernel
theorem dX0_nearestGood_63 : decode cX0_nearestGood 63 = .ok (.goto (-53), 3) := by decide +kernel
theorem dX0_nearestGood_66 : decode cX0_nearestGood 66 = .ok (.iconst (-1), 1) := by decide +kernel
theorem dX0_nearestGood_67 : decode cX0_nearestGood 67 = .ok (.ireturn, 1) := by decide +kernel
theorem dX0_paceAll_0 : decode cX0_paceAll 0 = .ok (.iconst 0, 1) := by decide +kernel
theorem dX0_paceAll_1 : decode cX0_paceAll 1 = .ok (.istore_n 2, 1) := by decide +kernel
theorem dX0_paceAll_2 : decode cX0_paceAll 2 = .ok (.iload_n 2, 1) := by decide +kernel
theorem dX0_paceAll_3 : decode cX0_paceAll 3 = .ok (.aload_n 0, 1) := by decide +kernel
theorem dX0_paceAll_4 : decode cX0_paceAll 4 = .ok (.getfield 25, 3) := by decide +kernel
theorem dX0_paceAll_7 : decode cX0_paceAll 7 = .ok (.getfield 79, 3) := by decide +kernel
theorem dX0_paceAll_10 : decode cX0_paceAll 10 = .ok (.if_icmp .ge 169, 3) := by decide +kernel
theorem dX0_paceAll_13 : decode cX0_paceAll 13 = .ok (.iconst 0, 1) := by decide +kernel
theorem dX0_paceAll_14 : decode cX0_paceAll 14 = .ok (.istore_n 3, 1) := by decide +kernel
theorem dX0_paceAll_15 : decode cX0_paceAll 15 = .ok (.iload_n 3, 1) := by decide +kernel
theorem dX0_paceAll_16 : decode cX0_paceAll 16 = .ok (.aload_n 0, 1) := by decide +kernel
theorem dX0_paceAll_17 : decode cX0_paceAll 17 = .ok (.getfield 25, 3) := by decide +kernel
theorem dX0_paceAll_20 : decode cX0_paceAll 20 = .ok (.getfield 82, 3) := by decide +kernel
theorem dX0_paceAll_23 : decode cX0_paceAll 23 = .ok (.if_icmp .ge 150, 3) := by decide +kernel
theorem dX0_paceAll_26 : decode cX0_paceAll 26 = .ok (.iload_n 2, 1) := by decide +kernel
theorem dX0_paceAll_27 : decode cX0_paceAll 27 = .ok (.iload_n 3, 1) := by decide +kernel
theorem dX0_paceAll_28 : decode cX0_paceAll 28 = .ok (.invokestatic 85, 3) := by decide +kernel
theorem dX0_paceAll_31 : decode cX0_paceAll 31 = .ok (.istore 4, 2) := by decide +kernel
theorem dX0_paceAll_33 : decode cX0_paceAll 33 = .ok (.bipush 50, 2) := by decide +kernel
theorem dX0_paceAll_35 : decode cX0_paceAll 35 = .ok (.istore 5, 2) := by decide +kernel
theorem dX0_paceAll_37 : decode cX0_paceAll 37 = .ok (.bipush 50, 2) := by decide +kernel
theorem dX0_paceAll_39 : decode cX0_paceAll 39 = .ok (.istore 6, 2) := by decide +kernel
theorem dX0_paceAll_41 : decode cX0_paceAll 41 = .ok (.iconst (-1), 1) := by decide +kernel
theorem dX0_paceAll_42 : decode cX0_paceAll 42 = .ok (.istore 7, 2) := by decide +kernel
theorem dX0_paceAll_44 : decode cX0_paceAll 44 = .ok (.iconst 0, 1) := by decide +kernel
theorem dX0_paceAll_45 : decode cX0_paceAll 45 = .ok (.istore 8, 2) := by decide +kernel
theorem dX0_paceAll_47 : decode cX0_paceAll 47 = .ok (.iload 8, 2) := by decide +kernel
theorem dX0_paceAll_49 : decode cX0_paceAll 49 = .ok (.aload_n 0, 1) := by decide +kernel
theorem dX0_paceAll_50 : decode cX0_paceAll 50 = .ok (.getfield 25, 3) := by decide +kernel
theorem dX0_paceAll_53 : decode cX0_paceAll 53 = .ok (.getfield 29, 3) := by decide +kernel
theorem dX0_paceAll_56 : decode cX0_paceAll 56 = .ok (.if_icmp .ge 72, 3) := by decide +kernel
theorem dX0_paceAll_59 : decode cX0_paceAll 59 = .ok (.aload_n 0, 1) := by decide +kernel
theorem dX0_paceAll_60 : decode cX0_paceAll 60 = .ok (.iload 8, 2) := by decide +kernel
theorem dX0_paceAll_62 : decode cX0_paceAll 62 = .ok (.iload_n 1, 1) := by decide +kernel
theorem dX0_paceAll_63 : decode cX0_paceAll 63 = .ok (.invokevirtual 46, 3) := by decide +kernel
theorem dX0_paceAll_66 : decode cX0_paceAll 66 = .ok (.istore 9, 2) := by decide +kernel
theorem dX0_paceAll_68 : decode cX0_paceAll 68 = .ok (.aload_n 0, 1) := by decide +kernel
theorem dX0_paceAll_69 : decode cX0_paceAll 69 = .ok (.getfield 25, 3) := by decide +kernel
theorem dX0_paceAll_72 : decode cX0_paceAll 72 = .ok (.iload 4, 2) := by decide +kernel
theorem dX0_paceAll_74 : decode cX0_paceAll 74 = .ok (.iload 9, 2) := by decide +kernel
theorem dX0_paceAll_76 : decode cX0_paceAll 76 = .ok (.invokevirtual 88, 3) := by decide +kernel
theorem dX0_paceAll_79 : decode cX0_paceAll 79 = .ok (.istore 10, 2) := by decide +kernel
theorem dX0_paceAll_81 : decode cX0_paceAll 81 = .ok (.iload 10, 2) := by decide +kernel
theorem dX0_paceAll_83 : decode cX0_paceAll 83 = .ok (.iload 6, 2) := by decide +kernel
theorem dX0_paceAll_85 : decode cX0_paceAll 85 = .ok (.if_icmp .ge 16, 3) := by decide +kernel
theorem dX0_paceAll_88 : decode cX0_paceAll 88 = .ok (.iload 10, 2) := by decide +kernel
theorem dX0_paceAll_90 : decode cX0_paceAll 90 = .ok (.istore 6, 2) := by decide +kernel
theorem dX0_paceAll_92 : decode cX0_paceAll 92 = .ok (.aload_n 0, 1) := by decide +kernel
theorem dX0_paceAll_93 : decode cX0_paceAll 93 = .ok (.iload 8, 2) := by decide +kernel
theorem dX0_paceAll_95 : decode cX0_paceAll 95 = .ok (.iload_n 1, 1) := by decide +kernel
theorem dX0_paceAll_96 : decode cX0_paceAll 96 = .ok (.invokevirtual 70, 3) := by decide +kernel
theorem dX0_paceAll_99 : decode cX0_paceAll 99 = .ok (.istore 7, 2) := by decide +kernel
theorem dX0_paceAll_101 : decode cX0_paceAll 101 = .ok (.aload_n 0, 1) := by decide +kernel
theorem dX0_paceAll_102 : decode cX0_paceAll 102 = .ok (.getfield 25, 3) := by decide +kernel
theorem dX0_paceAll_105 : decode cX0_paceAll 105 = .ok (.iload 9, 2) := by decide +kernel
theorem dX0_paceAll_107 : decode cX0_paceAll 107 = .ok (.invokevirtual 67, 3) := by decide +kernel
theorem dX0_paceAll_110 : decode cX0_paceAll 110 = .ok (.ifCond .eq 12, 3) := by decide +kernel
theorem dX0_paceAll_113 : decode cX0_paceAll 113 = .ok (.iload 5, 2) := by decide +kernel
theorem dX0_paceAll_115 : decode cX0_paceAll 115 = .ok (.iload 10, 2) := by decide +kernel
theorem dX0_paceAll_117 : decode cX0_paceAll 117 = .ok (.invokestatic 91, 3) := by decide +kernel
theorem dX0_paceAll_120 : decode cX0_paceAll 120 = .ok (.istore 5, 2) := by decide +kernel
theorem dX0_paceAll_122 : decode cX0_paceAll 122 = .ok (.iinc 8 1, 3) := by decide +kernel
theorem dX0_paceAll_125 : decode cX0_paceAll 125 = .ok (.goto (-78), 3) := by decide +kernel
theorem dX0_paceAll_128 : decode cX0_paceAll 128 = .ok (.aload_n 0, 1) := by decide +kernel
theorem dX0_paceAll_129 : decode cX0_paceAll 129 = .ok (.getfield 19, 3) := by decide +kernel
theorem dX0_paceAll_132 : decode cX0_paceAll 132 = .ok (.iload_n 1, 1) := by decide +kernel
theorem dX0_paceAll_133 : decode cX0_paceAll 133 = .ok (.bipush 36, 2) := by decide +kernel
theorem dX0_paceAll_135 : decode cX0_paceAll 135 = .ok (.imul, 1) := by decide +kernel
theorem dX0_paceAll_136 : decode cX0_paceAll 136 = .ok (.iload 4, 2) := by decide +kernel
theorem dX0_paceAll_138 : decode cX0_paceAll 138 = .ok (.iadd, 1) := by decide +kernel
theorem dX0_paceAll_139 : decode cX0_paceAll 139 = .ok (.iload 5, 2) := by decide +kernel
theorem dX0_paceAll_141 : decode cX0_paceAll 141 = .ok (.bipush 50, 2) := by decide +kernel
theorem dX0_paceAll_143 : decode cX0_paceAll 143 = .ok (.if_icmp .ne 7, 3) := by decide +kernel
theorem dX0_paceAll_146 : decode cX0_paceAll 146 = .ok (.iconst (-1), 1) := by decide +kernel
theorem dX0_paceAll_147 : decode cX0_paceAll 147 = .ok (.goto 5, 3) := by decide +kernel
theorem dX0_paceAll_150 : decode cX0_paceAll 150 = .ok (.iload 5, 2) := by decide +kernel
theorem dX0_paceAll_152 : decode cX0_paceAll 152 = .ok (.iastore, 1) := by decide +kernel
theorem dX0_paceAll_153 : decode cX0_paceAll 153 = .ok (.aload_n 0, 1) := by decide +kernel
theorem dX0_paceAll_154 : decode cX0_paceAll 154 = .ok (.getfield 22, 3) := by decide +kernel
theorem dX0_paceAll_157 : decode cX0_paceAll 157 = .ok (.iload_n 1, 1) := by decide +kernel
theorem dX0_paceAll_158 : decode cX0_paceAll 158 = .ok (.bipush 36, 2) := by decide +kernel
theorem dX0_paceAll_160 : decode cX0_paceAll 160 = .ok (.imul, 1) := by decide +kernel
theorem dX0_paceAll_161 : decode cX0_paceAll 161 = .ok (.iload 4, 2) := by decide +kernel
theorem dX0_paceAll_163 : decode cX0_paceAll 163 = .ok (.iadd, 1) := by decide +kernel
theorem dX0_paceAll_164 : decode cX0_paceAll 164 = .ok (.iload 7, 2) := by decide +kernel
theorem dX0_paceAll_166 : decode cX0_paceAll 166 = .ok (.iastore, 1) := by decide +kernel
theorem dX0_paceAll_167 : decode cX0_paceAll 167 = .ok (.iinc 3 1, 3) := by decide +kernel
theorem dX0_paceAll_170 : decode cX0_paceAll 170 = .ok (.goto (-155), 3) := by decide +kernel
theorem dX0_paceAll_173 : decode cX0_paceAll 173 = .ok (.iinc 2 1, 3) := by decide +kernel
theorem dX0_paceAll_176 : decode cX0_paceAll 176 = .ok (.goto (-174), 3) := by decide +kernel
theorem dX0_paceAll_179 : decode cX0_paceAll 179 = .ok (.return_, 1) := by decide +kernel
theorem dX0_paced_0 : decode cX0_paced 0 = .ok (.iload_n 2, 1) := by decide +kernel
theorem dX0_paced_1 : decode cX0_paced 1 = .ok (.ifCond .lt 19, 3) := by decide +kernel
theorem dX0_paced_4 : decode cX0_paced 4 = .ok (.iload_n 2, 1) := by decide +kernel
theorem dX0_paced_5 : decode cX0_paced 5 = .ok (.bipush 60, 2) := by decide +kernel
theorem dX0_paced_7 : decode cX0_paced 7 = .ok (.if_icmp .ge 13, 3) := by decide +kernel
theorem dX0_paced_10 : decode cX0_paced 10 = .ok (.iload_n 1, 1) := by decide +kernel
theorem dX0_paced_11 : decode cX0_paced 11 = .ok (.ifCond .lt 9, 3) := by decide +kernel
theorem dX0_paced_14 : decode cX0_paced 14 = .ok (.iload_n 1, 1) := by decide +kernel
theorem dX0_paced_15 : decode cX0_paced 15 = .ok (.bipush 36, 2) := by decide +kernel
theorem dX0_paced_17 : decode cX0_paced 17 = .ok (.if_icmp .lt 5, 3) := by decide +kernel
theorem dX0_paced_20 : decode cX0_paced 20 = .ok (.iconst 0, 1) := by decide +kernel
theorem dX0_paced_21 : decode cX0_paced 21 = .ok (.ireturn, 1) := by decide +kernel
theorem dX0_paced_22 : decode cX0_paced 22 = .ok (.aload_n 0, 1) := by decide +kernel
theorem dX0_paced_23 : decode cX0_paced 23 = .ok (.getfield 15, 3) := by decide +kernel
theorem dX0_paced_26 : decode cX0_paced 26 = .ok (.iload_n 2, 1) := by decide +kernel
theorem dX0_paced_27 : decode cX0_paced 27 = .ok (.baload, 1) := by decide +kernel
theorem dX0_paced_28 : decode cX0_paced 28 = .ok (.ifCond .ne 15, 3) := by decide +kernel
theorem dX0_paced_31 : decode cX0_paced 31 = .ok (.aload_n 0, 1) := by decide +kernel
theorem dX0_paced_32 : decode cX0_paced 32 = .ok (.getfield 15, 3) := by decide +kernel
theorem dX0_paced_35 : decode cX0_paced 35 = .ok (.iload_n 2, 1) := by decide +kernel
theorem dX0_paced_36 : decode cX0_paced 36 = .ok (.iconst 1, 1) := by decide +kernel
theorem dX0_paced_37 : decode cX0_paced 37 = .ok (.bastore, 1) := by decide +kernel
theorem dX0_paced_38 : decode cX0_paced 38 = .ok (.aload_n 0, 1) := by decide +kernel
theorem dX0_paced_39 : decode cX0_paced 39 = .ok (.iload_n 2, 1) := by decide +kernel
theorem dX0_paced_40 : decode cX0_paced 40 = .ok (.invokevirtual 76, 3) := by decide +kernel
theorem dX0_paced_43 : decode cX0_paced 43 = .ok (.iload_n 2, 1) := by decide +kernel
theorem dX0_paced_44 : decode cX0_paced 44 = .ok (.bipush 36, 2) := by decide +kernel
theorem dX0_paced_46 : decode cX0_paced 46 = .ok (.imul, 1) := by decide +kernel
theorem dX0_paced_47 : decode cX0_paced 47 = .ok (.iload_n 1, 1) := by decide +kernel
theorem dX0_paced_48 : decode cX0_paced 48 = .ok (.iadd, 1) := by decide +kernel
theorem dX0_paced_49 : decode cX0_paced 49 = .ok (.ireturn, 1) := by decide +kernel
theorem dX0_placeOf_0 : decode cX0_placeOf 0 = .ok (.iload_n 1, 1) := by decide +kernel
theorem dX0_placeOf_1 : decode cX0_placeOf 1 = .ok (.ifCond .lt 19, 3) := by decide +kernel
theorem dX0_placeOf_4 : decode cX0_placeOf 4 = .ok (.iload_n 1, 1) := by decide +kernel
theorem dX0_placeOf_5 : decode cX0_placeOf 5 = .ok (.bipush 7, 2) := by decide +kernel
theorem dX0_placeOf_7 : decode cX0_placeOf 7 = .ok (.if_icmp .ge 13, 3) := by decide +kernel
theorem dX0_placeOf_10 : decode cX0_placeOf 10 = .ok (.iload_n 2, 1) := by decide +kernel
theorem dX0_placeOf_11 : decode cX0_placeOf 11 = .ok (.ifCond .lt 9, 3) := by decide +kernel
theorem dX0_placeOf_14 : decode cX0_placeOf 14 = .ok (.iload_n 2, 1) := by decide +kernel
theorem dX0_placeOf_15 : decode cX0_placeOf 15 = .ok (.bipush 60, 2) := by decide +kernel
theorem dX0_placeOf_17 : decode cX0_placeOf 17 = .ok (.if_icmp .lt 5, 3) := by decide +kernel
theorem dX0_placeOf_20 : decode cX0_placeOf 20 = .ok (.iconst 0, 1) := by decide +kernel
theorem dX0_placeOf_21 : decode cX0_placeOf 21 = .ok (.ireturn, 1) := by decide +kernel
theorem dX0_placeOf_22 : decode cX0_placeOf 22 = .ok (.aload_n 0, 1) := by decide +kernel
theorem dX0_placeOf_23 : decode cX0_placeOf 23 = .ok (.getfield 9, 3) := by decide +kernel
theorem dX0_placeOf_26 : decode cX0_placeOf 26 = .ok (.iload_n 2, 1) := by decide +kernel
theorem dX0_placeOf_27 : decode cX0_placeOf 27 = .ok (.bipush 7, 2) := by decide +kernel
theorem dX0_placeOf_29 : decode cX0_placeOf 29 = .ok (.imul, 1) := by decide +kernel
theorem dX0_placeOf_30 : decode cX0_placeOf 30 = .ok (.iload_n 1, 1) := by decide +kernel
theorem dX0_placeOf_31 : decode cX0_placeOf 31 = .ok (.iadd, 1) := by decide +kernel
theorem dX0_placeOf_32 : decode cX0_placeOf 32 = .ok (.iaload, 1) := by decide +kernel
theorem dX0_placeOf_33 : decode cX0_placeOf 33 = .ok (.ireturn, 1) := by decide +kernel
theorem dX0_play_0 : decode cX0_play 0 = .ok (.aload_n 0, 1) := by decide +kernel
theorem dX0_play_1 : decode cX0_play 1 = .ok (.aload_n 1, 1) := by decide +kernel
theorem dX0_play_2 : decode cX0_play 2 = .ok (.putfield 25, 3) := by decide +kernel
theorem dX0_play_5 : decode cX0_play 5 = .ok (.iconst 0, 1) := by decide +kernel
theorem dX0_play_6 : decode cX0_play 6 = .ok (.istore_n 2, 1) := by decide +kernel
theorem dX0_play_7 : decode cX0_play 7 = .ok (.iload_n 2, 1) := by decide +kernel
theorem dX0_play_8 : decode cX0_play 8 = .ok (.aload_n 0, 1) := by decide +kernel
theorem dX0_play_9 : decode cX0_play 9 = .ok (.getfield 25, 3) := by decide +kernel
theorem dX0_play_12 : decode cX0_play 12 = .ok (.getfield 29, 3) := by decide +kernel
theorem dX0_play_15 : decode cX0_play 15 = .ok (.if_icmp .ge 30, 3) := by decide +kernel
theorem dX0_play_18 : decode cX0_play 18 = .ok (.iload_n 2, 1) := by decide +kernel
theorem dX0_play_19 : decode cX0_play 19 = .ok (.bipush 7, 2) := by decide +kernel
theorem dX0_play_21 : decode cX0_play 21 = .ok (.if_icmp .ge 24, 3) := by decide +kernel
theorem dX0_play_24 : decode cX0_play 24 = .ok (.aload_n 0, 1) := by decide +kernel
theorem dX0_play_25 : decode cX0_play 25 = .ok (.getfield 9, 3) := by decide +kernel
theorem dX0_play_28 : decode cX0_play 28 = .ok (.iload_n 2, 1) := by decide +kernel
theorem dX0_play_29 : decode cX0_play 29 = .ok (.aload_n 0, 1) := by decide +kernel
theorem dX0_play_30 : decode cX0_play 30 = .ok (.getfield 25, 3) := by decide +kernel
theorem dX0_play_33 : decode cX0_play 33 = .ok (.getfield 35, 3) := by decide +kernel
theorem dX0_play_36 : decode cX0_play 36 = .ok (.iload_n 2, 1) := by decide +kernel
theorem dX0_play_37 : decode cX0_play 37 = .ok (.iaload, 1) := by decide +kernel
theorem dX0_play_38 : decode cX0_play 38 = .ok (.iastore, 1) := by decide +kernel
theorem dX0_play_39 : decode cX0_play 39 = .ok (.iinc 2 1, 3) := by decide +kernel
theorem dX0_play_42 : decode cX0_play 42 = .ok (.goto (-35), 3) := by decide +kernel
theorem dX0_play_45 : decode cX0_play 45 = .ok (.iconst 0, 1) := by decide +kernel
theorem dX0_play_46 : decode cX0_play 46 = .ok (.istore_n 2, 1) := by decide +kernel
theorem dX0_play_47 : decode cX0_play 47 = .ok (.iload_n 2, 1) := by decide +kernel
theorem dX0_play_48 : decode cX0_play 48 = .ok (.iconst 1, 1) := by decide +kernel
theorem dX0_play_49 : decode cX0_play 49 = .ok (.iadd, 1) := by decide +kernel
theorem dX0_play_50 : decode cX0_play 50 = .ok (.bipush 60, 2) := by decide +kernel
theorem dX0_play_52 : decode cX0_play 52 = .ok (.if_icmp .ge 14, 3) := by decide +kernel
theorem dX0_play_55 : decode cX0_play 55 = .ok (.aload_n 0, 1) := by decide +kernel
theorem dX0_play_56 : decode cX0_play 56 = .ok (.iload_n 2, 1) := by decide +kernel
theorem dX0_play_57 : decode cX0_play 57 = .ok (.invokevirtual 38, 3) := by decide +kernel
theorem dX0_play_60 : decode cX0_play 60 = .ok (.iinc 2 1, 3) := by decide +kernel
theorem dX0_play_63 : decode cX0_play 63 = .ok (.goto (-16), 3) := by decide +kernel
theorem dX0_play_66 : decode cX0_play 66 = .ok (.iconst 0, 1) := by decide +kernel
theorem dX0_play_67 : decode cX0_play 67 = .ok (.istore_n 2, 1) := by decide +kernel
theorem dX0_play_68 : decode cX0_play 68 = .ok (.iload_n 2, 1) := by decide +kernel
theorem dX0_play_69 : decode cX0_play 69 = .ok (.bipush 60, 2) := by decide +kernel
theorem dX0_play_71 : decode cX0_play 71 = .ok (.if_icmp .ge 16, 3) := by decide +kernel
theorem dX0_play_74 : decode cX0_play 74 = .ok (.aload_n 0, 1) := by decide +kernel
theorem dX0_play_75 : decode cX0_play 75 = .ok (.getfield 15, 3) := by decide +kernel
theorem dX0_play_78 : decode cX0_play 78 = .ok (.iload_n 2, 1) := by decide +kernel
theorem dX0_play_79 : decode cX0_play 79 = .ok (.iconst 0, 1) := by decide +kernel
theorem dX0_play_80 : decode cX0_play 80 = .ok (.bastore, 1) := by decide +kernel
theorem dX0_play_81 : decode cX0_play 81 = .ok (.iinc 2 1, 3) := by decide +kernel
theorem dX0_play_84 : decode cX0_play 84 = .ok (.goto (-16), 3) := by decide +kernel
theorem dX0_play_87 : decode cX0_play 87 = .ok (.return_, 1) := by decide +kernel
theorem dX0_staysAsKings_0 : decode cX0_staysAsKings 0 = .ok (.aload_n 0, 1) := by decide +kernel
theorem dX0_staysAsKings_1 : decode cX0_staysAsKings 1 = .ok (.getfield 25, 3) := by decide +kernel
theorem dX0_staysAsKings_4 : decode cX0_staysAsKings 4 = .ok (.iload_n 1, 1) := by decide +kernel
theorem dX0_staysAsKings_5 : decode cX0_staysAsKings 5 = .ok (.iload_n 2, 1) := by decide +kernel
theorem dX0_staysAsKings_6 : decode cX0_staysAsKings 6 = .ok (.invokevirtual 57, 3) := by decide +kernel
theorem dX0_staysAsKings_9 : decode cX0_staysAsKings 9 = .ok (.ifCond .eq 21, 3) := by decide +kernel
theorem dX0_staysAsKings_12 : decode cX0_staysAsKings 12 = .ok (.aload_n 0, 1) := by decide +kernel
theorem dX0_staysAsKings_13 : decode cX0_staysAsKings 13 = .ok (.getfield 25, 3) := by decide +kernel
theorem dX0_staysAsKings_16 : decode cX0_staysAsKings 16 = .ok (.iload_n 1, 1) := by decide +kernel
theorem dX0_staysAsKings_17 : decode cX0_staysAsKings 17 = .ok (.iload_n 2, 1) := by decide +kernel
theorem dX0_staysAsKings_18 : decode cX0_staysAsKings 18 = .ok (.iconst 1, 1) := by decide +kernel
theorem dX0_staysAsKings_19 : decode cX0_staysAsKings 19 = .ok (.iadd, 1) := by decide +kernel
theorem dX0_staysAsKings_20 : decode cX0_staysAsKings 20 = .ok (.invokevirtual 57, 3) := by decide +kernel
theorem dX0_staysAsKings_23 : decode cX0_staysAsKings 23 = .ok (.ifCond .eq 7, 3) := by decide +kernel
theorem dX0_staysAsKings_26 : decode cX0_staysAsKings 26 = .ok (.iconst 1, 1) := by decide +kernel
theorem dX0_staysAsKings_27 : decode cX0_staysAsKings 27 = .ok (.goto 4, 3) := by decide +kernel
theorem dX0_staysAsKings_30 : decode cX0_staysAsKings 30 = .ok (.iconst 0, 1) := by decide +kernel
theorem dX0_staysAsKings_31 : decode cX0_staysAsKings 31 = .ok (.ireturn, 1) := by decide +kernel
theorem dX0_stepsOut_0 : decode cX0_stepsOut 0 = .ok (.aload_n 0, 1) := by decide +kernel
theorem dX0_stepsOut_1 : decode cX0_stepsOut 1 = .ok (.getfield 19, 3) := by decide +kernel
theorem dX0_stepsOut_4 : decode cX0_stepsOut 4 = .ok (.aload_n 0, 1) := by decide +kernel
theorem dX0_stepsOut_5 : decode cX0_stepsOut 5 = .ok (.iload_n 1, 1) := by decide +kernel
theorem dX0_stepsOut_6 : decode cX0_stepsOut 6 = .ok (.iload_n 2, 1) := by decide +kernel
theorem dX0_stepsOut_7 : decode cX0_stepsOut 7 = .ok (.invokevirtual 96, 3) := by decide +kernel
theorem dX0_stepsOut_10 : decode cX0_stepsOut 10 = .ok (.iaload, 1) := by decide +kernel
theorem dX0_stepsOut_11 : decode cX0_stepsOut 11 = .ok (.ireturn, 1) := by decide +kernel
theorem dX0_turnScrews_0 : decode cX0_turnScrews 0 = .ok (.iconst 0, 1) := by decide +kernel
theorem dX0_turnScrews_1 : decode cX0_turnScrews 1 = .ok (.istore_n 2, 1) := by decide +kernel
theorem dX0_turnScrews_2 : decode cX0_turnScrews 2 = .ok (.iconst 0, 1) := by decide +kernel
theorem dX0_turnScrews_3 : decode cX0_turnScrews 3 = .ok (.istore_n 3, 1) := by decide +kernel
theorem dX0_turnScrews_4 : decode cX0_turnScrews 4 = .ok (.iload_n 3, 1) := by decide +kernel
theorem dX0_turnScrews_5 : decode cX0_turnScrews 5 = .ok (.aload_n 0, 1) := by decide +kernel
theorem dX0_turnScrews_6 : decode cX0_turnScrews 6 = .ok (.getfield 25, 3) := by decide +kernel
theorem dX0_turnScrews_9 : decode cX0_turnScrews 9 = .ok (.getfield 29, 3) := by decide +kernel
theorem dX0_turnScrews_12 : decode cX0_turnScrews 12 = .ok (.if_icmp .ge 30, 3) := by decide +kernel
theorem dX0_turnScrews_15 : decode cX0_turnScrews 15 = .ok (.aload_n 0, 1) := by decide +kernel
theorem dX0_turnScrews_16 : decode cX0_turnScrews 16 = .ok (.iload_n 3, 1) := by decide +kernel
theorem dX0_turnScrews_17 : decode cX0_turnScrews 17 = .ok (.iload_n 1, 1) := by decide +kernel
theorem dX0_turnScrews_18 : decode cX0_turnScrews 18 = .ok (.invokevirtual 42, 3) := by decide +kernel
theorem dX0_turnScrews_21 : decode cX0_turnScrews 21 = .ok (.ifCond .eq 15, 3) := by decide +kernel
theorem dX0_turnScrews_24 : decode cX0_turnScrews 24 = .ok (.iload_n 2, 1) := by decide +kernel
theorem dX0_turnScrews_25 : decode cX0_turnScrews 25 = .ok (.aload_n 0, 1) := by decide +kernel
theorem dX0_turnScrews_26 : decode cX0_turnScrews 26 = .ok (.iload_n 3, 1) := by decide +kernel
theorem dX0_turnScrews_27 : decode cX0_turnScrews 27 = .ok (.iload_n 1, 1) := by decide +kernel
theorem dX0_turnScrews_28 : decode cX0_turnScrews 28 = .ok (.invokevirtual 46, 3) := by decide +kernel
theorem dX0_turnScrews_31 : decode cX0_turnScrews 31 = .ok (.invokestatic 50, 3) := by decide +kernel
theorem dX0_turnScrews_34 : decode cX0_turnScrews 34 = .ok (.ior, 1) := by decide +kernel
theorem dX0_turnScrews_35 : decode cX0_turnScrews 35 = .ok (.istore_n 2, 1) := by decide +kernel
theorem dX0_turnScrews_36 : decode cX0_turnScrews 36 = .ok (.iinc 3 1, 3) := by decide +kernel
theorem dX0_turnScrews_39 : decode cX0_turnScrews 39 = .ok (.goto (-35), 3) := by decide +kernel
theorem dX0_turnScrews_42 : decode cX0_turnScrews 42 = .ok (.iconst 0, 1) := by decide +kernel
theorem dX0_turnScrews_43 : decode cX0_turnScrews 43 = .ok (.istore_n 3, 1) := by decide +kernel
theorem dX0_turnScrews_44 : decode cX0_turnScrews 44 = .ok (.iload_n 3, 1) := by decide +kernel
theorem dX0_turnScrews_45 : decode cX0_turnScrews 45 = .ok (.aload_n 0, 1) := by decide +kernel
theorem dX0_turnScrews_46 : decode cX0_turnScrews 46 = .ok (.getfield 25, 3) := by decide +kernel
theorem dX0_turnScrews_49 : decode cX0_turnScrews 49 = .ok (.getfield 29, 3) := by decide +kernel
theorem dX0_turnScrews_52 : decode cX0_turnScrews 52 = .ok (.if_icmp .ge 60, 3) := by decide +kernel
theorem dX0_turnScrews_55 : decode cX0_turnScrews 55 = .ok (.iload_n 3, 1) := by decide +kernel
theorem dX0_turnScrews_56 : decode cX0_turnScrews 56 = .ok (.bipush 7, 2) := by decide +kernel
theorem dX0_turnScrews_58 : decode cX0_turnScrews 58 = .ok (.if_icmp .ge 54, 3) := by decide +kernel
theorem dX0_turnScrews_61 : decode cX0_turnScrews 61 = .ok (.aload_n 0, 1) := by decide +kernel
theorem dX0_turnScrews_62 : decode cX0_turnScrews 62 = .ok (.iload_n 3, 1) := by decide +kernel
theorem dX0_turnScrews_63 : decode cX0_turnScrews 63 = .ok (.iload_n 1, 1) := by decide +kernel
theorem dX0_turnScrews_64 : decode cX0_turnScrews 64 = .ok (.invokevirtual 46, 3) := by decide +kernel
theorem dX0_turnScrews_67 : decode cX0_turnScrews 67 = .ok (.istore 4, 2) := by decide +kernel
theorem dX0_turnScrews_69 : decode cX0_turnScrews 69 = .ok (.aload_n 0, 1) := by decide +kernel
theorem dX0_turnScrews_70 : decode cX0_turnScrews 70 = .ok (.getfield 9, 3) := by decide +kernel
theorem dX0_turnScrews_73 : decode cX0_turnScrews 73 = .ok (.iload_n 1, 1) := by decide +kernel
theorem dX0_turnScrews_74 : decode cX0_turnScrews 74 = .ok (.iconst 1, 1) := by decide +kernel
theorem dX0_turnScrews_75 : decode cX0_turnScrews 75 = .ok (.iadd, 1) := by decide +kernel
theorem dX0_turnScrews_76 : decode cX0_turnScrews 76 = .ok (.bipush 7, 2) := by decide +kernel
theorem dX0_turnScrews_78 : decode cX0_turnScrews 78 = .ok (.imul, 1) := by decide +kernel
theorem dX0_turnScrews_79 : decode cX0_turnScrews 79 = .ok (.iload_n 3, 1) := by decide +kernel
theorem dX0_turnScrews_80 : decode cX0_turnScrews 80 = .ok (.iadd, 1) := by decide +kernel
theorem dX0_turnScrews_81 : decode cX0_turnScrews 81 = .ok (.aload_n 0, 1) := by decide +kernel
theorem dX0_turnScrews_82 : decode cX0_turnScrews 82 = .ok (.iload_n 3, 1) := by decide +kernel
theorem dX0_turnScrews_83 : decode cX0_turnScrews 83 = .ok (.iload_n 1, 1) := by decide +kernel
theorem dX0_turnScrews_84 : decode cX0_turnScrews 84 = .ok (.invokevirtual 42, 3) := by decide +kernel
theorem dX0_turnScrews_87 : decode cX0_turnScrews 87 = .ok (.ifCond .eq 8, 3) := by decide +kernel
theorem dX0_turnScrews_90 : decode cX0_turnScrews 90 = .ok (.iload 4, 2) := by decide +kernel
theorem dX0_turnScrews_92 : decode cX0_turnScrews 92 = .ok (.goto 13, 3) := by decide +kernel
theorem dX0_turnScrews_95 : decode cX0_turnScrews 95 = .ok (.aload_n 0, 1) := by decide +kernel
theorem dX0_turnScrews_96 : decode cX0_turnScrews 96 = .ok (.getfield 25, 3) := by decide +kernel
theorem dX0_turnScrews_99 : decode cX0_turnScrews 99 = .ok (.iload 4, 2) := by decide +kernel
theorem dX0_turnScrews_101 : decode cX0_turnScrews 101 = .ok (.iload_n 2, 1) := by decide +kernel
theorem dX0_turnScrews_102 : decode cX0_turnScrews 102 = .ok (.invokevirtual 54, 3) := by decide +kernel
theorem dX0_turnScrews_105 : decode cX0_turnScrews 105 = .ok (.iastore, 1) := by decide +kernel
theorem dX0_turnScrews_106 : decode cX0_turnScrews 106 = .ok (.iinc 3 1, 3) := by decide +kernel
theorem dX0_turnScrews_109 : decode cX0_turnScrews 109 = .ok (.goto (-65), 3) := by decide +kernel
theorem dX0_turnScrews_112 : decode cX0_turnScrews 112 = .ok (.return_, 1) := by decide +kernel
theorem dX0_windyPairs_0 : decode cX0_windyPairs 0 = .ok (.iconst 0, 1) := by decide +kernel
theorem dX0_windyPairs_1 : decode cX0_windyPairs 1 = .ok (.istore_n 2, 1) := by decide +kernel
theorem dX0_windyPairs_2 : decode cX0_windyPairs 2 = .ok (.iconst 0, 1) := by decide +kernel
theorem dX0_windyPairs_3 : decode cX0_windyPairs 3 = .ok (.istore_n 3, 1) := by decide +kernel
theorem dX0_windyPairs_4 : decode cX0_windyPairs 4 = .ok (.iload_n 3, 1) := by decide +kernel
theorem dX0_windyPairs_5 : decode cX0_windyPairs 5 = .ok (.aload_n 0, 1) := by decide +kernel
theorem dX0_windyPairs_6 : decode cX0_windyPairs 6 = .ok (.getfield 25, 3) := by decide +kernel
theorem dX0_windyPairs_9 : decode cX0_windyPairs 9 = .ok (.getfield 29, 3) := by decide +kernel
theorem dX0_windyPairs_12 : decode cX0_windyPairs 12 = .ok (.if_icmp .ge 47, 3) := by decide +kernel
theorem dX0_windyPairs_15 : decode cX0_windyPairs 15 = .ok (.iconst 0, 1) := by decide +kernel
theorem dX0_windyPairs_16 : decode cX0_windyPairs 16 = .ok (.istore 4, 2) := by decide +kernel
theorem dX0_windyPairs_18 : decode cX0_windyPairs 18 = .ok (.iload 4, 2) := by decide +kernel
theorem dX0_windyPairs_20 : decode cX0_windyPairs 20 = .ok (.iload_n 3, 1) := by decide +kernel
theorem dX0_windyPairs_21 : decode cX0_windyPairs 21 = .ok (.if_icmp .ge 32, 3) := by decide +kernel
theorem dX0_windyPairs_24 : decode cX0_windyPairs 24 = .ok (.aload_n 0, 1) := by decide +kernel
theorem dX0_windyPairs_25 : decode cX0_windyPairs 25 = .ok (.aload_n 0, 1) := by decide +kernel
theorem dX0_windyPairs_26 : decode cX0_windyPairs 26 = .ok (.iload_n 3, 1) := by decide +kernel
theorem dX0_windyPairs_27 : decode cX0_windyPairs 27 = .ok (.iload_n 1, 1) := by decide +kernel
theorem dX0_windyPairs_28 : decode cX0_windyPairs 28 = .ok (.invokevirtual 46, 3) := by decide +kernel
theorem dX0_windyPairs_31 : decode cX0_windyPairs 31 = .ok (.aload_n 0, 1) := by decide +kernel
theorem dX0_windyPairs_32 : decode cX0_windyPairs 32 = .ok (.iload 4, 2) := by decide +kernel
theorem dX0_windyPairs_34 : decode cX0_windyPairs 34 = .ok (.iload_n 1, 1) := by decide +kernel
theorem dX0_windyPairs_35 : decode cX0_windyPairs 35 = .ok (.invokevirtual 46, 3) := by decide +kernel
theorem dX0_windyPairs_38 : decode cX0_windyPairs 38 = .ok (.invokevirtual 111, 3) := by decide +kernel
theorem dX0_windyPairs_41 : decode cX0_windyPairs 41 = .ok (.ifCond .eq 6, 3) := by decide +kernel
theorem dX0_windyPairs_44 : decode cX0_windyPairs 44 = .ok (.iinc 2 1, 3) := by decide +kernel
theorem dX0_windyPairs_47 : decode cX0_windyPairs 47 = .ok (.iinc 4 1, 3) := by decide +kernel
theorem dX0_windyPairs_50 : decode cX0_windyPairs 50 = .ok (.goto (-32), 3) := by decide +kernel
theorem dX0_windyPairs_53 : decode cX0_windyPairs 53 = .ok (.iinc 3 1, 3) := by decide +kernel
theorem dX0_windyPairs_56 : decode cX0_windyPairs 56 = .ok (.goto (-52), 3) := by decide +kernel
theorem dX0_windyPairs_59 : decode cX0_windyPairs 59 = .ok (.iload_n 2, 1) := by decide +kernel
theorem dX0_windyPairs_60 : decode cX0_windyPairs 60 = .ok (.ireturn, 1) := by decide +kernel
theorem dX10_add_0 : decode cX10_add 0 = .ok (.bipush 24, 2) := by decide +kernel
theorem dX10_add_2 : decode cX10_add 2 = .ok (.istore_n 2, 1) := by decide +kernel
theorem dX10_add_3 : decode cX10_add 3 = .ok (.iload_n 2, 1) := by decide +kernel
theorem dX10_add_4 : decode cX10_add 4 = .ok (.ifCond .lt 42, 3) := by decide +kernel
theorem dX10_add_7 : decode cX10_add 7 = .ok (.aload_n 0, 1) := by decide +kernel
theorem dX10_add_8 : decode cX10_add 8 = .ok (.getfield 15, 3) := by decide +kernel
theorem dX10_add_11 : decode cX10_add 11 = .ok (.sipush 1400, 3) := by decide +kernel
theorem dX10_add_14 : decode cX10_add 14 = .ok (.if_icmp .ge 32, 3) := by decide +kernel
theorem dX10_add_17 : decode cX10_add 17 = .ok (.aload_n 0, 1) := by decide +kernel
theorem dX10_add_18 : decode cX10_add 18 = .ok (.getfield 9, 3) := by decide +kernel
theorem dX10_add_21 : decode cX10_add 21 = .ok (.aload_n 0, 1) := by decide +kernel
theorem dX10_add_22 : decode cX10_add 22 = .ok (.getfield 15, 3) := by decide +kernel
theorem dX10_add_25 : decode cX10_add 25 = .ok (.iload_n 1, 1) := by decide +kernel
theorem dX10_add_26 : decode cX10_add 26 = .ok (.iload_n 2, 1) := by decide +kernel
theorem dX10_add_27 : decode cX10_add 27 = .ok (.ishr, 1) := by decide +kernel
theorem dX10_add_28 : decode cX10_add 28 = .ok (.i2b, 1) := by decide +kernel
theorem dX10_add_29 : decode cX10_add 29 = .ok (.bastore, 1) := by decide +kernel
theorem dX10_add_30 : decode cX10_add 30 = .ok (.aload_n 0, 1) := by decide +kernel
theorem dX10_add_31 : decode cX10_add 31 = .ok (.dup, 1) := by decide +kernel
theorem dX10_add_32 : decode cX10_add 32 = .ok (.getfield 15, 3) := by decide +kernel
theorem dX10_add_35 : decode cX10_add 35 = .ok (.iconst 1, 1) := by decide +kernel
theorem dX10_add_36 : decode cX10_add 36 = .ok (.iadd, 1) := by decide +kernel
theorem dX10_add_37 : decode cX10_add 37 = .ok (.putfield 15, 3) := by decide +kernel
theorem dX10_add_40 : decode cX10_add 40 = .ok (.iinc 2 (-8), 3) := by decide +kernel
theorem dX10_add_43 : decode cX10_add 43 = .ok (.goto (-40), 3) := by decide +kernel
theorem dX10_add_46 : decode cX10_add 46 = .ok (.return_, 1) := by decide +kernel
theorem dX10_byteAt_0 : decode cX10_byteAt 0 = .ok (.iload_n 1, 1) := by decide +kernel
theorem dX10_byteAt_1 : decode cX10_byteAt 1 = .ok (.ifCond .lt 31, 3) := by decide +kernel
theorem dX10_byteAt_4 : decode cX10_byteAt 4 = .ok (.iload_n 1, 1) := by decide +kernel
theorem dX10_byteAt_5 : decode cX10_byteAt 5 = .ok (.aload_n 0, 1) := by decide +kernel
theorem dX10_byteAt_6 : decode cX10_byteAt 6 = .ok (.getfield 15, 3) := by decide +kernel
theorem dX10_byteAt_9 : decode cX10_byteAt 9 = .ok (.if_icmp .ge 23, 3) := by decide +kernel
theorem dX10_byteAt_12 : decode cX10_byteAt 12 = .ok (.iload_n 1, 1) := by decide +kernel
theorem dX10_byteAt_13 : decode cX10_byteAt 13 = .ok (.sipush 1400, 3) := by decide +kernel
theorem dX10_byteAt_16 : decode cX10_byteAt 16 = .ok (.if_icmp .ge 16, 3) := by decide +kernel
theorem dX10_byteAt_19 : decode cX10_byteAt 19 = .ok (.aload_n 0, 1) := by decide +kernel
theorem dX10_byteAt_20 : decode cX10_byteAt 20 = .ok (.getfield 9, 3) := by decide +kernel
theorem dX10_byteAt_23 : decode cX10_byteAt 23 = .ok (.iload_n 1, 1) := by decide +kernel
theorem dX10_byteAt_24 : decode cX10_byteAt 24 = .ok (.baload, 1) := by decide +kernel
theorem dX10_byteAt_25 : decode cX10_byteAt 25 = .ok (.sipush 255, 3) := by decide +kernel
theorem dX10_byteAt_28 : decode cX10_byteAt 28 = .ok (.iand, 1) := by decide +kernel
theorem dX10_byteAt_29 : decode cX10_byteAt 29 = .ok (.goto 4, 3) := by decide +kernel
theorem dX10_byteAt_32 : decode cX10_byteAt 32 = .ok (.iconst (-1), 1) := by decide +kernel
theorem dX10_byteAt_33 : decode cX10_byteAt 33 = .ok (.ireturn, 1) := by decide +kernel
theorem dX10_hasRoom_0 : decode cX10_hasRoom 0 = .ok (.aload_n 0, 1) := by decide +kernel
theorem dX10_hasRoom_1 : decode cX10_hasRoom 1 = .ok (.getfield 15, 3) := by decide +kernel
theorem dX10_hasRoom_4 : decode cX10_hasRoom 4 = .ok (.bipush 20, 2) := by decide +kernel
theorem dX10_hasRoom_6 : decode cX10_hasRoom 6 = .ok (.iadd, 1) := by decide +kernel
theorem dX10_hasRoom_7 : decode cX10_hasRoom 7 = .ok (.sipush 1400, 3) := by decide +kernel
theorem dX10_hasRoom_10 : decode cX10_hasRoom 10 = .ok (.if_icmp .gt 7, 3) := by decide +kernel
theorem dX10_hasRoom_13 : decode cX10_hasRoom 13 = .ok (.iconst 1, 1) := by decide +kernel
theorem dX10_hasRoom_14 : decode cX10_hasRoom 14 = .ok (.goto 4, 3) := by decide +kernel
theorem dX10_hasRoom_17 : decode cX10_hasRoom 17 = .ok (.iconst 0, 1) := by decide +kernel
theorem dX10_hasRoom_18 : decode cX10_hasRoom 18 = .ok (.ireturn, 1) := by decide +kernel
theorem dX10_init_0 : decode cX10_init 0 = .ok (.aload_n 0, 1) := by decide +kernel
theorem dX10_init_1 : decode cX10_init 1 = .ok (.invokespecial 3, 3) := by decide +kernel
theorem dX10_init_4 : decode cX10_init 4 = .ok (.aload_n 0, 1) := by decide +kernel
theorem dX10_init_5 : decode cX10_init 5 = .ok (.sipush 1400, 3) := by decide +kernel
theorem dX10_init_8 : decode cX10_init 8 = .ok (.newarray .byte, 2) := by decide +kernel
theorem dX10_init_10 : decode cX10_init 10 = .ok (.putfield 9, 3) := by decide +kernel
theorem dX10_init_13 : decode cX10_init 13 = .ok (.return_, 1) := by decide +kernel
theorem dX11_again_0 : decode cX11_again 0 = .ok (.aload_n 0, 1) := by decide +kernel
theorem dX11_again_1 : decode cX11_again 1 = .ok (.getfield 33, 3) := by decide +kernel
theorem dX11_again_4 : decode cX11_again 4 = .ok (.invokevirtual 179, 3) := by decide +kernel
theorem dX11_again_7 : decode cX11_again 7 = .ok (.ifCond .ne 6, 3) := by decide +kernel
theorem dX11_again_10 : decode cX11_again 10 = .ok (.bipush (-2), 2) := by decide +kernel
theorem dX11_again_12 : decode cX11_again 12 = .ok (.ireturn, 1) := by decide +kernel
theorem dX11_again_13 : decode cX11_again 13 = .ok (.iconst 1, 1) := by decide +kernel
theorem dX11_again_14 : decode cX11_again 14 = .ok (.istore_n 1, 1) := by decide +kernel
theorem dX11_again_15 : decode cX11_again 15 = .ok (.iload_n 1, 1) := by decide +kernel
theorem dX11_again_16 : decode cX11_again 16 = .ok (.bipush 60, 2) := by decide +kernel
theorem dX11_again_18 : decode cX11_again 18 = .ok (.if_icmp .ge 22, 3) := by decide +kernel
theorem dX11_again_21 : decode cX11_again 21 = .ok (.aload_n 0, 1) := by decide +kernel
theorem dX11_again_22 : decode cX11_again 22 = .ok (.getfield 55, 3) := by decide +kernel
theorem dX11_again_25 : decode cX11_again 25 = .ok (.iload_n 1, 1) := by decide +kernel
theorem dX11_again_26 : decode cX11_again 26 = .ok (.invokevirtual 195, 3) := by decide +kernel
theorem dX11_again_29 : decode cX11_again 29 = .ok (.ifCond .eq 5, 3) := by decide +kernel
theorem dX11_again_32 : decode cX11_again 32 = .ok (.iload_n 1, 1) := by decide +kernel
theorem dX11_again_33 : decode cX11_again 33 = .ok (.ireturn, 1) := by decide +kernel
theorem dX11_again_34 : decode cX11_again 34 = .ok (.iinc 1 1, 3) := by decide +kernel
theorem dX11_again_37 : decode cX11_again 37 = .ok (.goto (-22), 3) := by decide +kernel
theorem dX11_again_40 : decode cX11_again 40 = .ok (.iconst (-1), 1) := by decide +kernel
theorem dX11_again_41 : decode cX11_again 41 = .ok (.ireturn, 1) := by decide +kernel
theorem dX11_ask_0 : decode cX11_ask 0 = .ok (.aload_n 0, 1) := by decide +kernel
theorem dX11_ask_1 : decode cX11_ask 1 = .ok (.iload_n 1, 1) := by decide +kernel
theorem dX11_ask_2 : decode cX11_ask 2 = .ok (.invokevirtual 243, 3) := by decide +kernel
theorem dX11_ask_5 : decode cX11_ask 5 = .ok (.istore_n 2, 1) := by decide +kernel
theorem dX11_ask_6 : decode cX11_ask 6 = .ok (.iload_n 2, 1) := by decide +kernel
theorem dX11_ask_7 : decode cX11_ask 7 = .ok (.ifCond .eq 7, 3) := by decide +kernel
theorem dX11_ask_10 : decode cX11_ask 10 = .ok (.iload_n 2, 1) := by decide +kernel
theorem dX11_ask_11 : decode cX11_ask 11 = .ok (.goto 23, 3) := by decide +kernel
theorem dX11_ask_14 : decode cX11_ask 14 = .ok (.aload_n 0, 1) := by decide +kernel
theorem dX11_ask_15 : decode cX11_ask 15 = .ok (.getfield 64, 3) := by decide +kernel
theorem dX11_ask_18 : decode cX11_ask 18 = .ok (.aload_n 0, 1) := by decide +kernel
theorem dX11_ask_19 : decode cX11_ask 19 = .ok (.getfield 64, 3) := by decide +kernel
theorem dX11_ask_22 : decode cX11_ask 22 = .ok (.aload_n 0, 1) := by decide +kernel
theorem dX11_ask_23 : decode cX11_ask 23 = .ok (.getfield 28, 3) := by decide +kernel
theorem dX11_ask_26 : decode cX11_ask 26 = .ok (.iload_n 1, 1) := by decide +kernel
theorem dX11_ask_27 : decode cX11_ask 27 = .ok (.aaload, 1) := by decide +kernel
theorem dX11_ask_28 : decode cX11_ask 28 = .ok (.invokevirtual 246, 3) := by decide +kernel
theorem dX11_ask_31 : decode cX11_ask 31 = .ok (.invokevirtual 250, 3) := by decide +kernel
theorem dX11_ask_34 : decode cX11_ask 34 = .ok (.ireturn, 1) := by decide +kernel
theorem dX11_at_0 : decode cX11_at 0 = .ok (.aload_n 0, 1) := by decide +kernel
theorem dX11_at_1 : decode cX11_at 1 = .ok (.getfield 33, 3) := by decide +kernel
theorem dX11_at_4 : decode cX11_at 4 = .ok (.iload_n 1, 1) := by decide +kernel
theorem dX11_at_5 : decode cX11_at 5 = .ok (.invokevirtual 141, 3) := by decide +kernel
theorem dX11_at_8 : decode cX11_at 8 = .ok (.ifCond .eq 10, 3) := by decide +kernel
theorem dX11_at_11 : decode cX11_at 11 = .ok (.iload_n 2, 1) := by decide +kernel
theorem dX11_at_12 : decode cX11_at 12 = .ok (.invokestatic 167, 3) := by decide +kernel
theorem dX11_at_15 : decode cX11_at 15 = .ok (.ifCond .ne 6, 3) := by decide +kernel
theorem dX11_at_18 : decode cX11_at 18 = .ok (.bipush (-2), 2) := by decide +kernel
theorem dX11_at_20 : decode cX11_at 20 = .ok (.ireturn, 1) := by decide +kernel
theorem dX11_at_21 : decode cX11_at 21 = .ok (.aload_n 0, 1) := by decide +kernel
theorem dX11_at_22 : decode cX11_at 22 = .ok (.getfield 55, 3) := by decide +kernel
theorem dX11_at_25 : decode cX11_at 25 = .ok (.iload_n 1, 1) := by decide +kernel
theorem dX11_at_26 : decode cX11_at 26 = .ok (.iload_n 2, 1) := by decide +kernel
theorem dX11_at_27 : decode cX11_at 27 = .ok (.invokevirtual 170, 3) := by decide +kernel
theorem dX11_at_30 : decode cX11_at 30 = .ok (.ireturn, 1) := by decide +kernel
theorem dX11_back_0 : decode cX11_back 0 = .ok (.iload_n 1, 1) := by decide +kernel
theorem dX11_back_1 : decode cX11_back 1 = .ok (.ifCond .lt 8, 3) := by decide +kernel
theorem dX11_back_4 : decode cX11_back 4 = .ok (.iload_n 1, 1) := by decide +kernel
theorem dX11_back_5 : decode cX11_back 5 = .ok (.iconst 3, 1) := by decide +kernel
theorem dX11_back_6 : decode cX11_back 6 = .ok (.if_icmp .lt 6, 3) := by decide +kernel
theorem dX11_back_9 : decode cX11_back 9 = .ok (.bipush (-2), 2) := by decide +kernel
theorem dX11_back_11 : decode cX11_back 11 = .ok (.ireturn, 1) := by decide +kernel
theorem dX11_back_12 : decode cX11_back 12 = .ok (.aload_n 0, 1) := by decide +kernel
theorem dX11_back_13 : decode cX11_back 13 = .ok (.getfield 22, 3) := by decide +kernel
theorem dX11_back_16 : decode cX11_back 16 = .ok (.iload_n 1, 1) := by decide +kernel
theorem dX11_back_17 : decode cX11_back 17 = .ok (.baload, 1) := by decide +kernel
theorem dX11_back_18 : decode cX11_back 18 = .ok (.ifCond .ne 6, 3) := by decide +kernel
theorem dX11_back_21 : decode cX11_back 21 = .ok (.bipush (-6), 2) := by decide +kernel
theorem dX11_back_23 : decode cX11_back 23 = .ok (.ireturn, 1) := by decide +kernel
theorem dX11_back_24 : decode cX11_back 24 = .ok (.aload_n 0, 1) := by decide +kernel
theorem dX11_back_25 : decode cX11_back 25 = .ok (.getfield 33, 3) := by decide +kernel
theorem dX11_back_28 : decode cX11_back 28 = .ok (.aload_n 0, 1) := by decide +kernel
theorem dX11_back_29 : decode cX11_back 29 = .ok (.getfield 18, 3) := by decide +kernel
theorem dX11_back_32 : decode cX11_back 32 = .ok (.iload_n 1, 1) := by decide +kernel
theorem dX11_back_33 : decode cX11_back 33 = .ok (.aaload, 1) := by decide +kernel
theorem dX11_back_34 : decode cX11_back 34 = .ok (.invokevirtual 348, 3) := by decide +kernel
theorem dX11_back_37 : decode cX11_back 37 = .ok (.aload_n 0, 1) := by decide +kernel
theorem dX11_back_38 : decode cX11_back 38 = .ok (.getfield 55, 3) := by decide +kernel
theorem dX11_back_41 : decode cX11_back 41 = .ok (.aload_n 0, 1) := by decide +kernel
theorem dX11_back_42 : decode cX11_back 42 = .ok (.getfield 33, 3) := by decide +kernel
theorem dX11_back_45 : decode cX11_back 45 = .ok (.invokevirtual 112, 3) := by decide +kernel
theorem dX11_back_48 : decode cX11_back 48 = .ok (.iconst 0, 1) := by decide +kernel
theorem dX11_back_49 : decode cX11_back 49 = .ok (.ireturn, 1) := by decide +kernel
theorem dX11_behind_0 : decode cX11_behind 0 = .ok (.aload_n 0, 1) := by decide +kernel
theorem dX11_behind_1 : decode cX11_behind 1 = .ok (.getfield 33, 3) := by decide +kernel
theorem dX11_behind_4 : decode cX11_behind 4 = .ok (.iload_n 1, 1) := by decide +kernel
theorem dX11_behind_5 : decode cX11_behind 5 = .ok (.invokevirtual 141, 3) := by decide +kernel
theorem dX11_behind_8 : decode cX11_behind 8 = .ok (.ifCond .eq 10, 3) := by decide +kernel
theorem dX11_behind_11 : decode cX11_behind 11 = .ok (.iload_n 2, 1) := by decide +kernel
theorem dX11_behind_12 : decode cX11_behind 12 = .ok (.invokestatic 167, 3) := by decide +kernel
theorem dX11_behind_15 : decode cX11_behind 15 = .ok (.ifCond .ne 6, 3) := by decide +kernel
theorem dX11_behind_18 : decode cX11_behind 18 = .ok (.bipush (-2), 2) := by decide +kernel
theorem dX11_behind_20 : decode cX11_behind 20 = .ok (.ireturn, 1) := by decide +kernel
theorem dX11_behind_21 : decode cX11_behind 21 = .ok (.aload_n 0, 1) := by decide +kernel
theorem dX11_behind_22 : decode cX11_behind 22 = .ok (.getfield 55, 3) := by decide +kernel
theorem dX11_behind_25 : decode cX11_behind 25 = .ok (.iload_n 1, 1) := by decide +kernel
theorem dX11_behind_26 : decode cX11_behind 26 = .ok (.iload_n 2, 1) := by decide +kernel
theorem dX11_behind_27 : decode cX11_behind 27 = .ok (.invokevirtual 176, 3) := by decide +kernel
theorem dX11_behind_30 : decode cX11_behind 30 = .ok (.ireturn, 1) := by decide +kernel
theorem dX11_best_0 : decode cX11_best 0 = .ok (.aload_n 0, 1) := by decide +kernel
theorem dX11_best_1 : decode cX11_best 1 = .ok (.getfield 33, 3) := by decide +kernel
theorem dX11_best_4 : decode cX11_best 4 = .ok (.invokevirtual 179, 3) := by decide +kernel
theorem dX11_best_7 : decode cX11_best 7 = .ok (.ifCond .eq 10, 3) := by decide +kernel
theorem dX11_best_10 : decode cX11_best 10 = .ok (.iload_n 1, 1) := by decide +kernel
theorem dX11_best_11 : decode cX11_best 11 = .ok (.invokestatic 167, 3) := by decide +kernel
theorem dX11_best_14 : decode cX11_best 14 = .ok (.ifCond .ne 6, 3) := by decide +kernel
theorem dX11_best_17 : decode cX11_best 17 = .ok (.bipush (-2), 2) := by decide +kernel
theorem dX11_best_19 : decode cX11_best 19 = .ok (.ireturn, 1) := by decide +kernel
theorem dX11_best_20 : decode cX11_best 20 = .ok (.aload_n 0, 1) := by decide +kernel
theorem dX11_best_21 : decode cX11_best 21 = .ok (.getfield 55, 3) := by decide +kernel
theorem dX11_best_24 : decode cX11_best 24 = .ok (.iload_n 1, 1) := by decide +kernel
theorem dX11_best_25 : decode cX11_best 25 = .ok (.invokevirtual 210, 3) := by decide +kernel
theorem dX11_best_28 : decode cX11_best 28 = .ok (.ireturn, 1) := by decide +kernel
theorem dX11_bit_0 : decode cX11_bit 0 = .ok (.iload_n 0, 1) := by decide +kernel
theorem dX11_bit_1 : decode cX11_bit 1 = .ok (.ifCond .ge 7, 3) := by decide +kernel
theorem dX11_bit_4 : decode cX11_bit 4 = .ok (.iconst 0, 1) := by decide +kernel
theorem dX11_bit_5 : decode cX11_bit 5 = .ok (.goto 6, 3) := by decide +kernel
theorem dX11_bit_8 : decode cX11_bit 8 = .ok (.iconst 1, 1) := by decide +kernel
theorem dX11_bit_9 : decode cX11_bit 9 = .ok (.iload_n 0, 1) := by decide +kernel
theorem dX11_bit_10 : decode cX11_bit 10 = .ok (.ishl, 1) := by decide +kernel
theorem dX11_bit_11 : decode cX11_bit 11 = .ok (.ireturn, 1) := by decide +kernel
theorem dX11_blind_0 : decode cX11_blind 0 = .ok (.aload_n 0, 1) := by decide +kernel
theorem dX11_blind_1 : decode cX11_blind 1 = .ok (.getfield 33, 3) := by decide +kernel
theorem dX11_blind_4 : decode cX11_blind 4 = .ok (.iload_n 1, 1) := by decide +kernel
theorem dX11_blind_5 : decode cX11_blind 5 = .ok (.iload_n 2, 1) := by decide +kernel
theorem dX11_blind_6 : decode cX11_blind 6 = .ok (.invokevirtual 156, 3) := by decide +kernel
theorem dX11_blind_9 : decode cX11_blind 9 = .ok (.ifCond .eq 20, 3) := by decide +kernel
theorem dX11_blind_12 : decode cX11_blind 12 = .ok (.iload_n 3, 1) := by decide +kernel
theorem dX11_blind_13 : decode cX11_blind 13 = .ok (.invokestatic 226, 3) := by decide +kernel
theorem dX11_blind_16 : decode cX11_blind 16 = .ok (.ifCond .eq 13, 3) := by decide +kernel
theorem dX11_blind_19 : decode cX11_blind 19 = .ok (.aload_n 0, 1) := by decide +kernel
theorem dX11_blind_20 : decode cX11_blind 20 = .ok (.getfield 33, 3) := by decide +kernel
theorem dX11_blind_23 : decode cX11_blind 23 = .ok (.getfield 275, 3) := by decide +kernel
theorem dX11_blind_26 : decode cX11_blind 26 = .ok (.ifCond .ne 6, 3) := by decide +kernel
theorem dX11_blind_29 : decode cX11_blind 29 = .ok (.bipush (-2), 2) := by decide +kernel
theorem dX11_blind_31 : decode cX11_blind 31 = .ok (.ireturn, 1) := by decide +kernel
theorem dX11_blind_32 : decode cX11_blind 32 = .ok (.aload_n 0, 1) := by decide +kernel
theorem dX11_blind_33 : decode cX11_blind 33 = .ok (.getfield 71, 3) := by decide +kernel
theorem dX11_blind_36 : decode cX11_blind 36 = .ok (.iload_n 3, 1) := by decide +kernel
theorem dX11_blind_37 : decode cX11_blind 37 = .ok (.invokevirtual 278, 3) := by decide +kernel
theorem dX11_blind_40 : decode cX11_blind 40 = .ok (.iload_n 1, 1) := by decide +kernel
theorem dX11_blind_41 : decode cX11_blind 41 = .ok (.iload_n 2, 1) := by decide +kernel
theorem dX11_blind_42 : decode cX11_blind 42 = .ok (.invokestatic 160, 3) := by decide +kernel
theorem dX11_blind_45 : decode cX11_blind 45 = .ok (.istore 4, 2) := by decide +kernel
theorem dX11_blind_47 : decode cX11_blind 47 = .ok (.aload_n 0, 1) := by decide +kernel
theorem dX11_blind_48 : decode cX11_blind 48 = .ok (.getfield 71, 3) := by decide +kernel
theorem dX11_blind_51 : decode cX11_blind 51 = .ok (.iload 4, 2) := by decide +kernel
theorem dX11_blind_53 : decode cX11_blind 53 = .ok (.aload_n 0, 1) := by decide +kernel
theorem dX11_blind_54 : decode cX11_blind 54 = .ok (.getfield 71, 3) := by decide +kernel
theorem dX11_blind_57 : decode cX11_blind 57 = .ok (.iload 4, 2) := by decide +kernel
theorem dX11_blind_59 : decode cX11_blind 59 = .ok (.iload_n 3, 1) := by decide +kernel
theorem dX11_blind_60 : decode cX11_blind 60 = .ok (.invokevirtual 281, 3) := by decide +kernel
theorem dX11_blind_63 : decode cX11_blind 63 = .ok (.iload_n 3, 1) := by decide +kernel
theorem dX11_blind_64 : decode cX11_blind 64 = .ok (.invokevirtual 284, 3) := by decide +kernel
theorem dX11_blind_67 : decode cX11_blind 67 = .ok (.ireturn, 1) := by decide +kernel
theorem dX11_breaks_0 : decode cX11_breaks 0 = .ok (.aload_n 0, 1) := by decide +kernel
theorem dX11_breaks_1 : decode cX11_breaks 1 = .ok (.getfield 33, 3) := by decide +kernel
theorem dX11_breaks_4 : decode cX11_breaks 4 = .ok (.invokevirtual 179, 3) := by decide +kernel
theorem dX11_breaks_7 : decode cX11_breaks 7 = .ok (.ifCond .eq 10, 3) := by decide +kernel
theorem dX11_breaks_10 : decode cX11_breaks 10 = .ok (.iload_n 1, 1) := by decide +kernel
theorem dX11_breaks_11 : decode cX11_breaks 11 = .ok (.invokestatic 167, 3) := by decide +kernel
theorem dX11_breaks_14 : decode cX11_breaks 14 = .ok (.ifCond .ne 6, 3) := by decide +kernel
theorem dX11_breaks_17 : decode cX11_breaks 17 = .ok (.bipush (-2), 2) := by decide +kernel
theorem dX11_breaks_19 : decode cX11_breaks 19 = .ok (.ireturn, 1) := by decide +kernel
theorem dX11_breaks_20 : decode cX11_breaks 20 = .ok (.iload_n 1, 1) := by decide +kernel
theorem dX11_breaks_21 : decode cX11_breaks 21 = .ok (.istore_n 2, 1) := by decide +kernel
theorem dX11_breaks_22 : decode cX11_breaks 22 = .ok (.iload_n 2, 1) := by decide +kernel
theorem dX11_breaks_23 : decode cX11_breaks 23 = .ok (.bipush 60, 2) := by decide +kernel
theorem dX11_breaks_25 : decode cX11_breaks 25 = .ok (.if_icmp .ge 22, 3) := by decide +kernel
theorem dX11_breaks_28 : decode cX11_breaks 28 = .ok (.aload_n 0, 1) := by decide +kernel
theorem dX11_breaks_29 : decode cX11_breaks 29 = .ok (.getfield 55, 3) := by decide +kernel
theorem dX11_breaks_32 : decode cX11_breaks 32 = .ok (.iload_n 2, 1) := by decide +kernel
theorem dX11_breaks_33 : decode cX11_breaks 33 = .ok (.invokevirtual 216, 3) := by decide +kernel
theorem dX11_breaks_36 : decode cX11_breaks 36 = .ok (.ifCond .ne 5, 3) := by decide +kernel
theorem dX11_breaks_39 : decode cX11_breaks 39 = .ok (.iload_n 2, 1) := by decide +kernel
theorem dX11_breaks_40 : decode cX11_breaks 40 = .ok (.ireturn, 1) := by decide +kernel
theorem dX11_breaks_41 : decode cX11_breaks 41 = .ok (.iinc 2 1, 3) := by decide +kernel
theorem dX11_breaks_44 : decode cX11_breaks 44 = .ok (.goto (-22), 3) := by decide +kernel
theorem dX11_breaks_47 : decode cX11_breaks 47 = .ok (.iconst (-1), 1) := by decide +kernel
theorem dX11_breaks_48 : decode cX11_breaks 48 = .ok (.ireturn, 1) := by decide +kernel
theorem dX11_by_0 : decode cX11_by 0 = .ok (.aload_n 0, 1) := by decide +kernel
theorem dX11_by_1 : decode cX11_by 1 = .ok (.getfield 33, 3) := by decide +kernel
theorem dX11_by_4 : decode cX11_by 4 = .ok (.iload_n 1, 1) := by decide +kernel
theorem dX11_by_5 : decode cX11_by 5 = .ok (.iload_n 2, 1) := by decide +kernel
theorem dX11_by_6 : decode cX11_by 6 = .ok (.invokevirtual 156, 3) := by decide +kernel
theorem dX11_by_9 : decode cX11_by 9 = .ok (.ifCond .eq 10, 3) := by decide +kernel
theorem dX11_by_12 : decode cX11_by 12 = .ok (.iload_n 3, 1) := by decide +kernel
theorem dX11_by_13 : decode cX11_by 13 = .ok (.invokestatic 167, 3) := by decide +kernel
theorem dX11_by_16 : decode cX11_by 16 = .ok (.ifCond .ne 6, 3) := by decide +kernel
theorem dX11_by_19 : decode cX11_by 19 = .ok (.bipush (-2), 2) := by decide +kernel
theorem dX11_by_21 : decode cX11_by 21 = .ok (.ireturn, 1) := by decide +kernel
theorem dX11_by_22 : decode cX11_by 22 = .ok (.aload_n 0, 1) := by decide +kernel
theorem dX11_by_23 : decode cX11_by 23 = .ok (.getfield 55, 3) := by decide +kernel
theorem dX11_by_26 : decode cX11_by 26 = .ok (.iload_n 1, 1) := by decide +kernel
theorem dX11_by_27 : decode cX11_by 27 = .ok (.iload_n 2, 1) := by decide +kernel
theorem dX11_by_28 : decode cX11_by 28 = .ok (.invokestatic 160, 3) := by decide +kernel
theorem dX11_by_31 : decode cX11_by 31 = .ok (.iload_n 3, 1) := by decide +kernel
theorem dX11_by_32 : decode cX11_by 32 = .ok (.invokevirtual 204, 3) := by decide +kernel
theorem dX11_by_35 : decode cX11_by 35 = .ok (.ireturn, 1) := by decide +kernel
theorem dX11_calmest_0 : decode cX11_calmest 0 = .ok (.aload_n 0, 1) := by decide +kernel
theorem dX11_calmest_1 : decode cX11_calmest 1 = .ok (.getfield 33, 3) := by decide +kernel
theorem dX11_calmest_4 : decode cX11_calmest 4 = .ok (.invokevirtual 179, 3) := by decide +kernel
theorem dX11_calmest_7 : decode cX11_calmest 7 = .ok (.ifCond .eq 10, 3) := by decide +kernel
theorem dX11_calmest_10 : decode cX11_calmest 10 = .ok (.iload_n 1, 1) := by decide +kernel
theorem dX11_calmest_11 : decode cX11_calmest 11 = .ok (.invokestatic 226, 3) := by decide +kernel
theorem dX11_calmest_14 : decode cX11_calmest 14 = .ok (.ifCond .ne 6, 3) := by decide +kernel
theorem dX11_calmest_17 : decode cX11_calmest 17 = .ok (.bipush (-2), 2) := by decide +kernel
theorem dX11_calmest_19 : decode cX11_calmest 19 = .ok (.ireturn, 1) := by decide +kernel
theorem dX11_calmest_20 : decode cX11_calmest 20 = .ok (.iconst 0, 1) := by decide +kernel
theorem dX11_calmest_21 : decode cX11_calmest 21 = .ok (.istore_n 2, 1) := by decide +kernel
theorem dX11_calmest_22 : decode cX11_calmest 22 = .ok (.aload_n 0, 1) := by decide +kernel
theorem dX11_calmest_23 : decode cX11_calmest 23 = .ok (.getfield 55, 3) := by decide +kernel
theorem dX11_calmest_26 : decode cX11_calmest 26 = .ok (.iconst 0, 1) := by decide +kernel
theorem dX11_calmest_27 : decode cX11_calmest 27 = .ok (.invokevirtual 240, 3) := by decide +kernel
theorem dX11_calmest_30 : decode cX11_calmest 30 = .ok (.istore_n 3, 1) := by decide +kernel
theorem dX11_calmest_31 : decode cX11_calmest 31 = .ok (.iconst 1, 1) := by decide +kernel
theorem dX11_calmest_32 : decode cX11_calmest 32 = .ok (.istore 4, 2) := by decide +kernel
theorem dX11_calmest_34 : decode cX11_calmest 34 = .ok (.iload 4, 2) := by decide +kernel
theorem dX11_calmest_36 : decode cX11_calmest 36 = .ok (.iload_n 1, 1) := by decide +kernel
theorem dX11_calmest_37 : decode cX11_calmest 37 = .ok (.if_icmp .ge 32, 3) := by decide +kernel
theorem dX11_calmest_40 : decode cX11_calmest 40 = .ok (.aload_n 0, 1) := by decide +kernel
theorem dX11_calmest_41 : decode cX11_calmest 41 = .ok (.getfield 55, 3) := by decide +kernel
theorem dX11_calmest_44 : decode cX11_calmest 44 = .ok (.iload 4, 2) := by decide +kernel
theorem dX11_calmest_46 : decode cX11_calmest 46 = .ok (.invokevirtual 240, 3) := by decide +kernel
theorem dX11_calmest_49 : decode cX11_calmest 49 = .ok (.istore 5, 2) := by decide +kernel
theorem dX11_calmest_51 : decode cX11_calmest 51 = .ok (.iload 5, 2) := by decide +kernel
theorem dX11_calmest_53 : decode cX11_calmest 53 = .ok (.iload_n 3, 1) := by decide +kernel
theorem dX11_calmest_54 : decode cX11_calmest 54 = .ok (.if_icmp .ge 9, 3) := by decide +kernel
theorem dX11_calmest_57 : decode cX11_calmest 57 = .ok (.iload 5, 2) := by decide +kernel
theorem dX11_calmest_59 : decode cX11_calmest 59 = .ok (.istore_n 3, 1) := by decide +kernel
theorem dX11_calmest_60 : decode cX11_calmest 60 = .ok (.iload 4, 2) := by decide +kernel
theorem dX11_calmest_62 : decode cX11_calmest 62 = .ok (.istore_n 2, 1) := by decide +kernel
theorem dX11_calmest_63 : decode cX11_calmest 63 = .ok (.iinc 4 1, 3) := by decide +kernel
theorem dX11_calmest_66 : decode cX11_calmest 66 = .ok (.goto (-32), 3) := by decide +kernel
theorem dX11_calmest_69 : decode cX11_calmest 69 = .ok (.iload_n 2, 1) := by decide +kernel
theorem dX11_calmest_70 : decode cX11_calmest 70 = .ok (.ireturn, 1) := by decide +kernel
theorem dX11_canDraw_0 : decode cX11_canDraw 0 = .ok (.iload_n 1, 1) := by decide +kernel
theorem dX11_canDraw_1 : decode cX11_canDraw 1 = .ok (.ifCond .lt 31, 3) := by decide +kernel
theorem dX11_canDraw_4 : decode cX11_canDraw 4 = .ok (.iload_n 1, 1) := by decide +kernel
theorem dX11_canDraw_5 : decode cX11_canDraw 5 = .ok (.ldc_w 382, 3) := by decide +kernel
theorem dX11_canDraw_8 : decode cX11_canDraw 8 = .ok (.if_icmp .gt 24, 3) := by decide +kernel
theorem dX11_canDraw_11 : decode cX11_canDraw 11 = .ok (.iload_n 2, 1) := by decide +kernel
theorem dX11_canDraw_12 : decode cX11_canDraw 12 = .ok (.invokestatic 167, 3) := by decide +kernel
theorem dX11_canDraw_15 : decode cX11_canDraw 15 = .ok (.ifCond .eq 17, 3) := by decide +kernel
theorem dX11_canDraw_18 : decode cX11_canDraw 18 = .ok (.aload_n 0, 1) := by decide +kernel
theorem dX11_canDraw_19 : decode cX11_canDraw 19 = .ok (.getfield 33, 3) := by decide +kernel
theorem dX11_canDraw_22 : decode cX11_canDraw 22 = .ok (.getfield 293, 3) := by decide +kernel
theorem dX11_canDraw_25 : decode cX11_canDraw 25 = .ok (.ifCond .le 7, 3) := by decide +kernel
theorem dX11_canDraw_28 : decode cX11_canDraw 28 = .ok (.iconst 1, 1) := by decide +kernel
theorem dX11_canDraw_29 : decode cX11_canDraw 29 = .ok (.goto 4, 3) := by decide +kernel
theorem dX11_canDraw_32 : decode cX11_canDraw 32 = .ok (.iconst 0, 1) := by decide +kernel
theorem dX11_canDraw_33 : decode cX11_canDraw 33 = .ok (.ireturn, 1) := by decide +kernel
theorem dX11_claque_0 : decode cX11_claque 0 = .ok (.aload_n 0, 1) := by decide +kernel
theorem dX11_claque_1 : decode cX11_claque 1 = .ok (.getfield 33, 3) := by decide +kernel
theorem dX11_claque_4 : decode cX11_claque 4 = .ok (.iload_n 1, 1) := by decide +kernel
theorem dX11_claque_5 : decode cX11_claque 5 = .ok (.invokevirtual 141, 3) := by decide +kernel
theorem dX11_claque_8 : decode cX11_claque 8 = .ok (.ifCond .eq 10, 3) := by decide +kernel
theorem dX11_claque_11 : decode cX11_claque 11 = .ok (.iload_n 2, 1) := by decide +kernel
theorem dX11_claque_12 : decode cX11_claque 12 = .ok (.invokestatic 167, 3) := by decide +kernel
theorem dX11_claque_15 : decode cX11_claque 15 = .ok (.ifCond .ne 6, 3) := by decide +kernel
theorem dX11_claque_18 : decode cX11_claque 18 = .ok (.bipush (-2), 2) := by decide +kernel
theorem dX11_claque_20 : decode cX11_claque 20 = .ok (.ireturn, 1) := by decide +kernel
theorem dX11_claque_21 : decode cX11_claque 21 = .ok (.aload_n 0, 1) := by decide +kernel
theorem dX11_claque_22 : decode cX11_claque 22 = .ok (.getfield 55, 3) := by decide +kernel
theorem dX11_claque_25 : decode cX11_claque 25 = .ok (.iload_n 1, 1) := by decide +kernel
theorem dX11_claque_26 : decode cX11_claque 26 = .ok (.iload_n 2, 1) := by decide +kernel
theorem dX11_claque_27 : decode cX11_claque 27 = .ok (.invokevirtual 290, 3) := by decide +kernel
theorem dX11_claque_30 : decode cX11_claque 30 = .ok (.ireturn, 1) := by decide +kernel
theorem dX11_count_0 : decode cX11_count 0 = .ok (.iload_n 1, 1) := by decide +kernel
theorem dX11_count_1 : decode cX11_count 1 = .ok (.tableswitch 138 0 9 #[55, 63, 71, 79, 87, 95, 106, 117, 125, 133], 55) := by decide +kernel
theorem dX11_count_56 : decode cX11_count 56 = .ok (.aload_n 0, 1) := by decide +kernel
theorem dX11_count_57 : decode cX11_count 57 = .ok (.getfield 33, 3) := by decide +kernel
theorem dX11_count_60 : decode cX11_count 60 = .ok (.getfield 334, 3) := by decide +kernel
theorem dX11_count_63 : decode cX11_count 63 = .ok (.ireturn, 1) := by decide +kernel
theorem dX11_count_64 : decode cX11_count 64 = .ok (.aload_n 0, 1) := by decide +kernel
theorem dX11_count_65 : decode cX11_count 65 = .ok (.getfield 33, 3) := by decide +kernel
theorem dX11_count_68 : decode cX11_count 68 = .ok (.getfield 337, 3) := by decide +kernel
theorem dX11_count_71 : decode cX11_count 71 = .ok (.ireturn, 1) := by decide +kernel
theorem dX11_count_72 : decode cX11_count 72 = .ok (.aload_n 0, 1) := by decide +kernel
theorem dX11_count_73 : decode cX11_count 73 = .ok (.getfield 33, 3) := by decide +kernel
theorem dX11_count_76 : decode cX11_count 76 = .ok (.getfield 237, 3) := by decide +kernel
theorem dX11_count_79 : decode cX11_count 79 = .ok (.ireturn, 1) := by decide +kernel
theorem dX11_count_80 : decode cX11_count 80 = .ok (.aload_n 0, 1) := by decide +kernel
theorem dX11_count_81 : decode cX11_count 81 = .ok (.getfield 33, 3) := by decide +kernel
theorem dX11_count_84 : decode cX11_count 84 = .ok (.getfield 275, 3) := by decide +kernel
theorem dX11_count_87 : decode cX11_count 87 = .ok (.ireturn, 1) := by decide +kernel
theorem dX11_count_88 : decode cX11_count 88 = .ok (.aload_n 0, 1) := by decide +kernel
theorem dX11_count_89 : decode cX11_count 89 = .ok (.getfield 33, 3) := by decide +kernel
theorem dX11_count_92 : decode cX11_count 92 = .ok (.getfield 293, 3) := by decide +kernel
theorem dX11_count_95 : decode cX11_count 95 = .ok (.ireturn, 1) := by decide +kernel
theorem dX11_count_96 : decode cX11_count 96 = .ok (.aload_n 0, 1) := by decide +kernel
theorem dX11_count_97 : decode cX11_count 97 = .ok (.getfield 33, 3) := by decide +kernel
theorem dX11_count_100 : decode cX11_count 100 = .ok (.getfield 340, 3) := by decide +kernel
theorem dX11_count_103 : decode cX11_count 103 = .ok (.invokestatic 263, 3) := by decide +kernel
theorem dX11_count_106 : decode cX11_count 106 = .ok (.ireturn, 1) := by decide +kernel
theorem dX11_count_107 : decode cX11_count 107 = .ok (.aload_n 0, 1) := by decide +kernel
theorem dX11_count_108 : decode cX11_count 108 = .ok (.getfield 33, 3) := by decide +kernel
theorem dX11_count_111 : decode cX11_count 111 = .ok (.getfield 296, 3) := by decide +kernel
theorem dX11_count_114 : decode cX11_count 114 = .ok (.getfield 315, 3) := by decide +kernel
theorem dX11_count_117 : decode cX11_count 117 = .ok (.ireturn, 1) := by decide +kernel
theorem dX11_count_118 : decode cX11_count 118 = .ok (.aload_n 0, 1) := by decide +kernel
theorem dX11_count_119 : decode cX11_count 119 = .ok (.getfield 33, 3) := by decide +kernel
theorem dX11_count_122 : decode cX11_count 122 = .ok (.getfield 115, 3) := by decide +kernel
theorem dX11_count_125 : decode cX11_count 125 = .ok (.ireturn, 1) := by decide +kernel
theorem dX11_count_126 : decode cX11_count 126 = .ok (.aload_n 0, 1) := by decide +kernel
theorem dX11_count_127 : decode cX11_count 127 = .ok (.getfield 10, 3) := by decide +kernel
theorem dX11_count_130 : decode cX11_count 130 = .ok (.getfield 104, 3) := by decide +kernel
theorem dX11_count_133 : decode cX11_count 133 = .ok (.ireturn, 1) := by decide +kernel
theorem dX11_count_134 : decode cX11_count 134 = .ok (.aload_n 0, 1) := by decide +kernel
theorem dX11_count_135 : decode cX11_count 135 = .ok (.invokevirtual 344, 3) := by decide +kernel
theorem dX11_count_138 : decode cX11_count 138 = .ok (.ireturn, 1) := by decide +kernel
theorem dX11_count_139 : decode cX11_count 139 = .ok (.iconst (-1), 1) := by decide +kernel
theorem dX11_count_140 : decode cX11_count 140 = .ok (.ireturn, 1) := by decide +kernel
theorem dX11_danger_0 : decode cX11_danger 0 = .ok (.aload_n 0, 1) := by decide +kernel
theorem dX11_danger_1 : decode cX11_danger 1 = .ok (.getfield 33, 3) := by decide +kernel
theorem dX11_danger_4 : decode cX11_danger 4 = .ok (.invokevirtual 179, 3) := by decide +kernel
theorem dX11_danger_7 : decode cX11_danger 7 = .ok (.ifCond .eq 10, 3) := by decide +kernel
theorem dX11_danger_10 : decode cX11_danger 10 = .ok (.iload_n 1, 1) := by decide +kernel
theorem dX11_danger_11 : decode cX11_danger 11 = .ok (.invokestatic 182, 3) := by decide +kernel
theorem dX11_danger_14 : decode cX11_danger 14 = .ok (.ifCond .ne 6, 3) := by decide +kernel
theorem dX11_danger_17 : decode cX11_danger 17 = .ok (.bipush (-2), 2) := by decide +kernel
theorem dX11_danger_19 : decode cX11_danger 19 = .ok (.ireturn, 1) := by decide +kernel
theorem dX11_danger_20 : decode cX11_danger 20 = .ok (.iconst 0, 1) := by decide +kernel
theorem dX11_danger_21 : decode cX11_danger 21 = .ok (.istore_n 2, 1) := by decide +kernel
theorem dX11_danger_22 : decode cX11_danger 22 = .ok (.iconst 0, 1) := by decide +kernel
theorem dX11_danger_23 : decode cX11_danger 23 = .ok (.istore_n 3, 1) := by decide +kernel
theorem dX11_danger_24 : decode cX11_danger 24 = .ok (.iconst 0, 1) := by decide +kernel
theorem dX11_danger_25 : decode cX11_danger 25 = .ok (.istore 4, 2) := by decide +kernel
theorem dX11_danger_27 : decode cX11_danger 27 = .ok (.iload 4, 2) := by decide +kernel
theorem dX11_danger_29 : decode cX11_danger 29 = .ok (.bipush 60, 2) := by decide +kernel
theorem dX11_danger_31 : decode cX11_danger 31 = .ok (.if_icmp .ge 33, 3) := by decide +kernel
theorem dX11_danger_34 : decode cX11_danger 34 = .ok (.aload_n 0, 1) := by decide +kernel
theorem dX11_danger_35 : decode cX11_danger 35 = .ok (.getfield 55, 3) := by decide +kernel
theorem dX11_danger_38 : decode cX11_danger 38 = .ok (.iload_n 1, 1) := by decide +kernel
theorem dX11_danger_39 : decode cX11_danger 39 = .ok (.iload 4, 2) := by decide +kernel
theorem dX11_danger_41 : decode cX11_danger 41 = .ok (.invokevirtual 287, 3) := by decide +kernel
theorem dX11_danger_44 : decode cX11_danger 44 = .ok (.istore 5, 2) := by decide +kernel
theorem dX11_danger_46 : decode cX11_danger 46 = .ok (.iload 5, 2) := by decide +kernel
theorem dX11_danger_48 : decode cX11_danger 48 = .ok (.iload_n 3, 1) := by decide +kernel
theorem dX11_danger_49 : decode cX11_danger 49 = .ok (.if_icmp .le 9, 3) := by decide +kernel
theorem dX11_danger_52 : decode cX11_danger 52 = .ok (.iload 5, 2) := by decide +kernel
theorem dX11_danger_54 : decode cX11_danger 54 = .ok (.istore_n 3, 1) := by decide +kernel
theorem dX11_danger_55 : decode cX11_danger 55 = .ok (.iload 4, 2) := by decide +kernel
theorem dX11_danger_57 : decode cX11_danger 57 = .ok (.istore_n 2, 1) := by decide +kernel
theorem dX11_danger_58 : decode cX11_danger 58 = .ok (.iinc 4 1, 3) := by decide +kernel
theorem dX11_danger_61 : decode cX11_danger 61 = .ok (.goto (-34), 3) := by decide +kernel
theorem dX11_danger_64 : decode cX11_danger 64 = .ok (.iload_n 2, 1) := by decide +kernel
theorem dX11_danger_65 : decode cX11_danger 65 = .ok (.ireturn, 1) := by decide +kernel
theorem dX11_doubles_0 : decode cX11_doubles 0 = .ok (.aload_n 0, 1) := by decide +kernel
theorem dX11_doubles_1 : decode cX11_doubles 1 = .ok (.getfield 33, 3) := by decide +kernel
theorem dX11_doubles_4 : decode cX11_doubles 4 = .ok (.invokevirtual 179, 3) := by decide +kernel
theorem dX11_doubles_7 : decode cX11_doubles 7 = .ok (.ifCond .eq 10, 3) := by decide +kernel
theorem dX11_doubles_10 : decode cX11_doubles 10 = .ok (.iload_n 1, 1) := by decide +kernel
theorem dX11_doubles_11 : decode cX11_doubles 11 = .ok (.invokestatic 167, 3) := by decide +kernel
theorem dX11_doubles_14 : decode cX11_doubles 14 = .ok (.ifCond .ne 6, 3) := by decide +kernel
theorem dX11_doubles_17 : decode cX11_doubles 17 = .ok (.bipush (-2), 2) := by decide +kernel
theorem dX11_doubles_19 : decode cX11_doubles 19 = .ok (.ireturn, 1) := by decide +kernel
theorem dX11_doubles_20 : decode cX11_doubles 20 = .ok (.aload_n 0, 1) := by decide +kernel
theorem dX11_doubles_21 : decode cX11_doubles 21 = .ok (.getfield 55, 3) := by decide +kernel
theorem dX11_doubles_24 : decode cX11_doubles 24 = .ok (.iload_n 1, 1) := by decide +kernel
theorem dX11_doubles_25 : decode cX11_doubles 25 = .ok (.invokevirtual 188, 3) := by decide +kernel
theorem dX11_doubles_28 : decode cX11_doubles 28 = .ok (.ireturn, 1) := by decide +kernel
theorem dX11_drawn_0 : decode cX11_drawn 0 = .ok (.aload_n 0, 1) := by decide +kernel
theorem dX11_drawn_1 : decode cX11_drawn 1 = .ok (.iload_n 1, 1) := by decide +kernel
theorem dX11_drawn_2 : decode cX11_drawn 2 = .ok (.iload_n 2, 1) := by decide +kernel
theorem dX11_drawn_3 : decode cX11_drawn 3 = .ok (.invokevirtual 318, 3) := by decide +kernel
theorem dX11_drawn_6 : decode cX11_drawn 6 = .ok (.ifCond .eq 12, 3) := by decide +kernel
theorem dX11_drawn_9 : decode cX11_drawn 9 = .ok (.iload_n 3, 1) := by decide +kernel
theorem dX11_drawn_10 : decode cX11_drawn 10 = .ok (.ifCond .lt 8, 3) := by decide +kernel
theorem dX11_drawn_13 : decode cX11_drawn 13 = .ok (.iload_n 3, 1) := by decide +kernel
theorem dX11_drawn_14 : decode cX11_drawn 14 = .ok (.iconst 5, 1) := by decide +kernel
theorem dX11_drawn_15 : decode cX11_drawn 15 = .ok (.if_icmp .le 6, 3) := by decide +kernel
theorem dX11_drawn_18 : decode cX11_drawn 18 = .ok (.bipush (-2), 2) := by decide +kernel
theorem dX11_drawn_20 : decode cX11_drawn 20 = .ok (.ireturn, 1) := by decide +kernel
theorem dX11_drawn_21 : decode cX11_drawn 21 = .ok (.aload_n 0, 1) := by decide +kernel
theorem dX11_drawn_22 : decode cX11_drawn 22 = .ok (.getfield 92, 3) := by decide +kernel
theorem dX11_drawn_25 : decode cX11_drawn 25 = .ok (.iload_n 1, 1) := by decide +kernel
theorem dX11_drawn_26 : decode cX11_drawn 26 = .ok (.i2l, 1) := by decide +kernel
theorem dX11_drawn_27 : decode cX11_drawn 27 = .ok (.iload_n 2, 1) := by decide +kernel
theorem dX11_drawn_28 : decode cX11_drawn 28 = .ok (.invokevirtual 321, 3) := by decide +kernel
theorem dX11_drawn_31 : decode cX11_drawn 31 = .ok (.iload_n 3, 1) := by decide +kernel
theorem dX11_drawn_32 : decode cX11_drawn 32 = .ok (.iconst 5, 1) := by decide +kernel
theorem dX11_drawn_33 : decode cX11_drawn 33 = .ok (.if_icmp .ne 13, 3) := by decide +kernel
theorem dX11_drawn_36 : decode cX11_drawn 36 = .ok (.aload_n 0, 1) := by decide +kernel
theorem dX11_drawn_37 : decode cX11_drawn 37 = .ok (.getfield 92, 3) := by decide +kernel
theorem dX11_drawn_40 : decode cX11_drawn 40 = .ok (.getfield 325, 3) := by decide +kernel
theorem dX11_drawn_43 : decode cX11_drawn 43 = .ok (.goto 12, 3) := by decide +kernel
theorem dX11_drawn_46 : decode cX11_drawn 46 = .ok (.aload_n 0, 1) := by decide +kernel
theorem dX11_drawn_47 : decode cX11_drawn 47 = .ok (.getfield 92, 3) := by decide +kernel
theorem dX11_drawn_50 : decode cX11_drawn 50 = .ok (.getfield 328, 3) := by decide +kernel
theorem dX11_drawn_53 : decode cX11_drawn 53 = .ok (.iload_n 3, 1) := by decide +kernel
theorem dX11_drawn_54 : decode cX11_drawn 54 = .ok (.iaload, 1) := by decide +kernel
theorem dX11_drawn_55 : decode cX11_drawn 55 = .ok (.ireturn, 1) := by decide +kernel
theorem dX11_end_0 : decode cX11_end 0 = .ok (.iload_n 1, 1) := by decide +kernel
theorem dX11_end_1 : decode cX11_end 1 = .ok (.ifCond .lt 14, 3) := by decide +kernel
theorem dX11_end_4 : decode cX11_end 4 = .ok (.iload_n 1, 1) := by decide +kernel
theorem dX11_end_5 : decode cX11_end 5 = .ok (.aload_n 0, 1) := by decide +kernel
theorem dX11_end_6 : decode cX11_end 6 = .ok (.getfield 10, 3) := by decide +kernel
theorem dX11_end_9 : decode cX11_end 9 = .ok (.getfield 104, 3) := by decide +kernel
theorem dX11_end_12 : decode cX11_end 12 = .ok (.if_icmp .le 5, 3) := by decide +kernel
theorem dX11_end_15 : decode cX11_end 15 = .ok (.iconst (-1), 1) := by decide +kernel
theorem dX11_end_16 : decode cX11_end 16 = .ok (.ireturn, 1) := by decide +kernel
theorem dX11_end_17 : decode cX11_end 17 = .ok (.aload_n 0, 1) := by decide +kernel
theorem dX11_end_18 : decode cX11_end 18 = .ok (.getfield 10, 3) := by decide +kernel
theorem dX11_end_21 : decode cX11_end 21 = .ok (.iload_n 1, 1) := by decide +kernel
theorem dX11_end_22 : decode cX11_end 22 = .ok (.putfield 104, 3) := by decide +kernel
theorem dX11_end_25 : decode cX11_end 25 = .ok (.iload_n 1, 1) := by decide +kernel
theorem dX11_end_26 : decode cX11_end 26 = .ok (.ireturn, 1) := by decide +kernel
theorem dX11_exit_0 : decode cX11_exit 0 = .ok (.aload_n 0, 1) := by decide +kernel
theorem dX11_exit_1 : decode cX11_exit 1 = .ok (.getfield 33, 3) := by decide +kernel
theorem dX11_exit_4 : decode cX11_exit 4 = .ok (.iload_n 1, 1) := by decide +kernel
theorem dX11_exit_5 : decode cX11_exit 5 = .ok (.invokevirtual 141, 3) := by decide +kernel
theorem dX11_exit_8 : decode cX11_exit 8 = .ok (.ifCond .ne 6, 3) := by decide +kernel
theorem dX11_exit_11 : decode cX11_exit 11 = .ok (.bipush (-2), 2) := by decide +kernel
theorem dX11_exit_13 : decode cX11_exit 13 = .ok (.ireturn, 1) := by decide +kernel
theorem dX11_exit_14 : decode cX11_exit 14 = .ok (.iload_n 2, 1) := by decide +kernel
theorem dX11_exit_15 : decode cX11_exit 15 = .ok (.tableswitch 69 0 3 #[29, 39, 49, 59], 29) := by decide +kernel
theorem dX11_exit_44 : decode cX11_exit 44 = .ok (.aload_n 0, 1) := by decide +kernel
theorem dX11_exit_45 : decode cX11_exit 45 = .ok (.getfield 33, 3) := by decide +kernel
theorem dX11_exit_48 : decode cX11_exit 48 = .ok (.getfield 144, 3) := by decide +kernel
theorem dX11_exit_51 : decode cX11_exit 51 = .ok (.iload_n 1, 1) := by decide +kernel
theorem dX11_exit_52 : decode cX11_exit 52 = .ok (.iaload, 1) := by decide +kernel
theorem dX11_exit_53 : decode cX11_exit 53 = .ok (.ireturn, 1) := by decide +kernel
theorem dX11_exit_54 : decode cX11_exit 54 = .ok (.aload_n 0, 1) := by decide +kernel
theorem dX11_exit_55 : decode cX11_exit 55 = .ok (.getfield 33, 3) := by decide +kernel
theorem dX11_exit_58 : decode cX11_exit 58 = .ok (.getfield 147, 3) := by decide +kernel
theorem dX11_exit_61 : decode cX11_exit 61 = .ok (.iload_n 1, 1) := by decide +kernel
theorem dX11_exit_62 : decode cX11_exit 62 = .ok (.iaload, 1) := by decide +kernel
theorem dX11_exit_63 : decode cX11_exit 63 = .ok (.ireturn, 1) := by decide +kernel
theorem dX11_exit_64 : decode cX11_exit 64 = .ok (.aload_n 0, 1) := by decide +kernel
theorem dX11_exit_65 : decode cX11_exit 65 = .ok (.getfield 33, 3) := by decide +kernel
theorem dX11_exit_68 : decode cX11_exit 68 = .ok (.getfield 150, 3) := by decide +kernel
theorem dX11_exit_71 : decode cX11_exit 71 = .ok (.iload_n 1, 1) := by decide +kernel
theorem dX11_exit_72 : decode cX11_exit 72 = .ok (.iaload, 1) := by decide +kernel
theorem dX11_exit_73 : decode cX11_exit 73 = .ok (.ireturn, 1) := by decide +kernel
theorem dX11_exit_74 : decode cX11_exit 74 = .ok (.aload_n 0, 1) := by decide +kernel
theorem dX11_exit_75 : decode cX11_exit 75 = .ok (.getfield 33, 3) := by decide +kernel
theorem dX11_exit_78 : decode cX11_exit 78 = .ok (.getfield 153, 3) := by decide +kernel
theorem dX11_exit_81 : decode cX11_exit 81 = .ok (.iload_n 1, 1) := by decide +kernel
theorem dX11_exit_82 : decode cX11_exit 82 = .ok (.iaload, 1) := by decide +kernel
theorem dX11_exit_83 : decode cX11_exit 83 = .ok (.ireturn, 1) := by decide +kernel
theorem dX11_exit_84 : decode cX11_exit 84 = .ok (.bipush (-2), 2) := by decide +kernel
theorem dX11_exit_86 : decode cX11_exit 86 = .ok (.ireturn, 1) := by decide +kernel
theorem dX11_falls_0 : decode cX11_falls 0 = .ok (.aload_n 0, 1) := by decide +kernel
theorem dX11_falls_1 : decode cX11_falls 1 = .ok (.getfield 33, 3) := by decide +kernel
theorem dX11_falls_4 : decode cX11_falls 4 = .ok (.iload_n 1, 1) := by decide +kernel
theorem dX11_falls_5 : decode cX11_falls 5 = .ok (.iload_n 2, 1) := by decide +kernel
theorem dX11_falls_6 : decode cX11_falls 6 = .ok (.invokevirtual 156, 3) := by decide +kernel
theorem dX11_falls_9 : decode cX11_falls 9 = .ok (.ifCond .eq 10, 3) := by decide +kernel
theorem dX11_falls_12 : decode cX11_falls 12 = .ok (.iload_n 3, 1) := by decide +kernel
theorem dX11_falls_13 : decode cX11_falls 13 = .ok (.invokestatic 167, 3) := by decide +kernel
theorem dX11_falls_16 : decode cX11_falls 16 = .ok (.ifCond .ne 6, 3) := by decide +kernel
theorem dX11_falls_19 : decode cX11_falls 19 = .ok (.bipush (-2), 2) := by decide +kernel
theorem dX11_falls_21 : decode cX11_falls 21 = .ok (.ireturn, 1) := by decide +kernel
theorem dX11_falls_22 : decode cX11_falls 22 = .ok (.aload_n 0, 1) := by decide +kernel
theorem dX11_falls_23 : decode cX11_falls 23 = .ok (.getfield 55, 3) := by decide +kernel
theorem dX11_falls_26 : decode cX11_falls 26 = .ok (.iload_n 1, 1) := by decide +kernel
theorem dX11_falls_27 : decode cX11_falls 27 = .ok (.iload_n 2, 1) := by decide +kernel
theorem dX11_falls_28 : decode cX11_falls 28 = .ok (.invokestatic 160, 3) := by decide +kernel
theorem dX11_falls_31 : decode cX11_falls 31 = .ok (.iload_n 3, 1) := by decide +kernel
theorem dX11_falls_32 : decode cX11_falls 32 = .ok (.invokevirtual 207, 3) := by decide +kernel
theorem dX11_falls_35 : decode cX11_falls 35 = .ok (.ireturn, 1) := by decide +kernel
theorem dX11_far_0 : decode cX11_far 0 = .ok (.aload_n 0, 1) := by decide +kernel
theorem dX11_far_1 : decode cX11_far 1 = .ok (.getfield 33, 3) := by decide +kernel
theorem dX11_far_4 : decode cX11_far 4 = .ok (.iload_n 1, 1) := by decide +kernel
theorem dX11_far_5 : decode cX11_far 5 = .ok (.iload_n 2, 1) := by decide +kernel
theorem dX11_far_6 : decode cX11_far 6 = .ok (.invokevirtual 156, 3) := by decide +kernel
theorem dX11_far_9 : decode cX11_far 9 = .ok (.ifCond .eq 10, 3) := by decide +kernel
theorem dX11_far_12 : decode cX11_far 12 = .ok (.iload_n 3, 1) := by decide +kernel
theorem dX11_far_13 : decode cX11_far 13 = .ok (.invokestatic 167, 3) := by decide +kernel
theorem dX11_far_16 : decode cX11_far 16 = .ok (.ifCond .ne 6, 3) := by decide +kernel
theorem dX11_far_19 : decode cX11_far 19 = .ok (.bipush (-2), 2) := by decide +kernel
theorem dX11_far_21 : decode cX11_far 21 = .ok (.ireturn, 1) := by decide +kernel
theorem dX11_far_22 : decode cX11_far 22 = .ok (.aload_n 0, 1) := by decide +kernel
theorem dX11_far_23 : decode cX11_far 23 = .ok (.getfield 55, 3) := by decide +kernel
theorem dX11_far_26 : decode cX11_far 26 = .ok (.iload_n 1, 1) := by decide +kernel
theorem dX11_far_27 : decode cX11_far 27 = .ok (.iload_n 2, 1) := by decide +kernel
theorem dX11_far_28 : decode cX11_far 28 = .ok (.invokestatic 160, 3) := by decide +kernel
theorem dX11_far_31 : decode cX11_far 31 = .ok (.iload_n 3, 1) := by decide +kernel
theorem dX11_far_32 : decode cX11_far 32 = .ok (.invokevirtual 201, 3) := by decide +kernel
theorem dX11_far_35 : decode cX11_far 35 = .ok (.ireturn, 1) := by decide +kernel
theorem dX11_fault_0 : decode cX11_fault 0 = .ok (.iload_n 1, 1) := by decide +kernel
theorem dX11_fault_1 : decode cX11_fault 1 = .ok (.ifCond .ne 11, 3) := by decide +kernel
theorem dX11_fault_4 : decode cX11_fault 4 = .ok (.aload_n 0, 1) := by decide +kernel
theorem dX11_fault_5 : decode cX11_fault 5 = .ok (.getfield 46, 3) := by decide +kernel
theorem dX11_fault_8 : decode cX11_fault 8 = .ok (.getfield 118, 3) := by decide +kernel
theorem dX11_fault_11 : decode cX11_fault 11 = .ok (.ireturn, 1) := by decide +kernel
theorem dX11_fault_12 : decode cX11_fault 12 = .ok (.iload_n 1, 1) := by decide +kernel
theorem dX11_fault_13 : decode cX11_fault 13 = .ok (.iconst 1, 1) := by decide +kernel
theorem dX11_fault_14 : decode cX11_fault 14 = .ok (.if_icmp .ne 13, 3) := by decide +kernel
theorem dX11_fault_17 : decode cX11_fault 17 = .ok (.aload_n 0, 1) := by decide +kernel
theorem dX11_fault_18 : decode cX11_fault 18 = .ok (.getfield 46, 3) := by decide +kernel
theorem dX11_fault_21 : decode cX11_fault 21 = .ok (.getfield 121, 3) := by decide +kernel
theorem dX11_fault_24 : decode cX11_fault 24 = .ok (.goto 4, 3) := by decide +kernel
theorem dX11_fault_27 : decode cX11_fault 27 = .ok (.iconst (-1), 1) := by decide +kernel
theorem dX11_fault_28 : decode cX11_fault 28 = .ok (.ireturn, 1) := by decide +kernel
theorem dX11_feed_0 : decode cX11_feed 0 = .ok (.aload_n 0, 1) := by decide +kernel
theorem dX11_feed_1 : decode cX11_feed 1 = .ok (.getfield 10, 3) := by decide +kernel
theorem dX11_feed_4 : decode cX11_feed 4 = .ok (.invokevirtual 96, 3) := by decide +kernel
theorem dX11_feed_7 : decode cX11_feed 7 = .ok (.ifCond .ne 5, 3) := by decide +kernel
theorem dX11_feed_10 : decode cX11_feed 10 = .ok (.iconst (-1), 1) := by decide +kernel
theorem dX11_feed_11 : decode cX11_feed 11 = .ok (.ireturn, 1) := by decide +kernel
theorem dX11_feed_12 : decode cX11_feed 12 = .ok (.aload_n 0, 1) := by decide +kernel
theorem dX11_feed_13 : decode cX11_feed 13 = .ok (.getfield 10, 3) := by decide +kernel
theorem dX11_feed_16 : decode cX11_feed 16 = .ok (.iload_n 1, 1) := by decide +kernel
theorem dX11_feed_17 : decode cX11_feed 17 = .ok (.invokevirtual 100, 3) := by decide +kernel
theorem dX11_feed_20 : decode cX11_feed 20 = .ok (.aload_n 0, 1) := by decide +kernel
theorem dX11_feed_21 : decode cX11_feed 21 = .ok (.getfield 10, 3) := by decide +kernel
theorem dX11_feed_24 : decode cX11_feed 24 = .ok (.iload_n 2, 1) := by decide +kernel
theorem dX11_feed_25 : decode cX11_feed 25 = .ok (.invokevirtual 100, 3) := by decide +kernel
theorem dX11_feed_28 : decode cX11_feed 28 = .ok (.aload_n 0, 1) := by decide +kernel
theorem dX11_feed_29 : decode cX11_feed 29 = .ok (.getfield 10, 3) := by decide +kernel
theorem dX11_feed_32 : decode cX11_feed 32 = .ok (.iload_n 3, 1) := by decide +kernel
theorem dX11_feed_33 : decode cX11_feed 33 = .ok (.invokevirtual 100, 3) := by decide +kernel
theorem dX11_feed_36 : decode cX11_feed 36 = .ok (.aload_n 0, 1) := by decide +kernel
theorem dX11_feed_37 : decode cX11_feed 37 = .ok (.getfield 10, 3) := by decide +kernel
theorem dX11_feed_40 : decode cX11_feed 40 = .ok (.iload 4, 2) := by decide +kernel
theorem dX11_feed_42 : decode cX11_feed 42 = .ok (.invokevirtual 100, 3) := by decide +kernel
theorem dX11_feed_45 : decode cX11_feed 45 = .ok (.aload_n 0, 1) := by decide +kernel
theorem dX11_feed_46 : decode cX11_feed 46 = .ok (.getfield 10, 3) := by decide +kernel
theorem dX11_feed_49 : decode cX11_feed 49 = .ok (.iload 5, 2) := by decide +kernel
theorem dX11_feed_51 : decode cX11_feed 51 = .ok (.invokevirtual 100, 3) := by decide +kernel
theorem dX11_feed_54 : decode cX11_feed 54 = .ok (.aload_n 0, 1) := by decide +kernel
theorem dX11_feed_55 : decode cX11_feed 55 = .ok (.getfield 10, 3) := by decide +kernel
theorem dX11_feed_58 : decode cX11_feed 58 = .ok (.getfield 104, 3) := by decide +kernel
theorem dX11_feed_61 : decode cX11_feed 61 = .ok (.ireturn, 1) := by decide +kernel
theorem dX11_fell_0 : decode cX11_fell 0 = .ok (.aload_n 0, 1) := by decide +kernel
theorem dX11_fell_1 : decode cX11_fell 1 = .ok (.iload_n 1, 1) := by decide +kernel
theorem dX11_fell_2 : decode cX11_fell 2 = .ok (.invokevirtual 257, 3) := by decide +kernel
theorem dX11_fell_5 : decode cX11_fell 5 = .ok (.istore_n 2, 1) := by decide +kernel
theorem dX11_fell_6 : decode cX11_fell 6 = .ok (.iload_n 2, 1) := by decide +kernel
theorem dX11_fell_7 : decode cX11_fell 7 = .ok (.ifCond .eq 8, 3) := by decide +kernel
theorem dX11_fell_10 : decode cX11_fell 10 = .ok (.iload_n 2, 1) := by decide +kernel
theorem dX11_fell_11 : decode cX11_fell 11 = .ok (.i2l, 1) := by decide +kernel
theorem dX11_fell_12 : decode cX11_fell 12 = .ok (.goto 16, 3) := by decide +kernel
theorem dX11_fell_15 : decode cX11_fell 15 = .ok (.aload_n 0, 1) := by decide +kernel
theorem dX11_fell_16 : decode cX11_fell 16 = .ok (.getfield 64, 3) := by decide +kernel
theorem dX11_fell_19 : decode cX11_fell 19 = .ok (.aload_n 0, 1) := by decide +kernel
theorem dX11_fell_20 : decode cX11_fell 20 = .ok (.getfield 28, 3) := by decide +kernel
theorem dX11_fell_23 : decode cX11_fell 23 = .ok (.iload_n 1, 1) := by decide +kernel
theorem dX11_fell_24 : decode cX11_fell 24 = .ok (.aaload, 1) := by decide +kernel
theorem dX11_fell_25 : decode cX11_fell 25 = .ok (.invokevirtual 260, 3) := by decide +kernel
theorem dX11_fell_28 : decode cX11_fell 28 = .ok (.lreturn, 1) := by decide +kernel
theorem dX11_goes_0 : decode cX11_goes 0 = .ok (.aload_n 0, 1) := by decide +kernel
theorem dX11_goes_1 : decode cX11_goes 1 = .ok (.getfield 33, 3) := by decide +kernel
theorem dX11_goes_4 : decode cX11_goes 4 = .ok (.iload_n 1, 1) := by decide +kernel
theorem dX11_goes_5 : decode cX11_goes 5 = .ok (.iload_n 2, 1) := by decide +kernel
theorem dX11_goes_6 : decode cX11_goes 6 = .ok (.invokevirtual 156, 3) := by decide +kernel
theorem dX11_goes_9 : decode cX11_goes 9 = .ok (.ifCond .eq 20, 3) := by decide +kernel
theorem dX11_goes_12 : decode cX11_goes 12 = .ok (.iload_n 3, 1) := by decide +kernel
theorem dX11_goes_13 : decode cX11_goes 13 = .ok (.invokestatic 226, 3) := by decide +kernel
theorem dX11_goes_16 : decode cX11_goes 16 = .ok (.ifCond .eq 13, 3) := by decide +kernel
theorem dX11_goes_19 : decode cX11_goes 19 = .ok (.aload_n 0, 1) := by decide +kernel
theorem dX11_goes_20 : decode cX11_goes 20 = .ok (.getfield 33, 3) := by decide +kernel
theorem dX11_goes_23 : decode cX11_goes 23 = .ok (.getfield 275, 3) := by decide +kernel
theorem dX11_goes_26 : decode cX11_goes 26 = .ok (.ifCond .ne 6, 3) := by decide +kernel
theorem dX11_goes_29 : decode cX11_goes 29 = .ok (.bipush (-2), 2) := by decide +kernel
theorem dX11_goes_31 : decode cX11_goes 31 = .ok (.ireturn, 1) := by decide +kernel
theorem dX11_goes_32 : decode cX11_goes 32 = .ok (.aload_n 0, 1) := by decide +kernel
theorem dX11_goes_33 : decode cX11_goes 33 = .ok (.getfield 71, 3) := by decide +kernel
theorem dX11_goes_36 : decode cX11_goes 36 = .ok (.iload_n 3, 1) := by decide +kernel
theorem dX11_goes_37 : decode cX11_goes 37 = .ok (.invokevirtual 278, 3) := by decide +kernel
theorem dX11_goes_40 : decode cX11_goes 40 = .ok (.aload_n 0, 1) := by decide +kernel
theorem dX11_goes_41 : decode cX11_goes 41 = .ok (.getfield 71, 3) := by decide +kernel
theorem dX11_goes_44 : decode cX11_goes 44 = .ok (.iload_n 1, 1) := by decide +kernel
theorem dX11_goes_45 : decode cX11_goes 45 = .ok (.iload_n 2, 1) := by decide +kernel
theorem dX11_goes_46 : decode cX11_goes 46 = .ok (.invokestatic 160, 3) := by decide +kernel
theorem dX11_goes_49 : decode cX11_goes 49 = .ok (.iload_n 3, 1) := by decide +kernel
theorem dX11_goes_50 : decode cX11_goes 50 = .ok (.invokevirtual 281, 3) := by decide +kernel
theorem dX11_goes_53 : decode cX11_goes 53 = .ok (.ireturn, 1) := by decide +kernel
theorem dX11_hall_0 : decode cX11_hall 0 = .ok (.aload_n 0, 1) := by decide +kernel
theorem dX11_hall_1 : decode cX11_hall 1 = .ok (.getfield 46, 3) := by decide +kernel
theorem dX11_hall_4 : decode cX11_hall 4 = .ok (.aload_n 0, 1) := by decide +kernel
theorem dX11_hall_5 : decode cX11_hall 5 = .ok (.getfield 37, 3) := by decide +kernel
theorem dX11_hall_8 : decode cX11_hall 8 = .ok (.invokevirtual 108, 3) := by decide +kernel
theorem dX11_hall_11 : decode cX11_hall 11 = .ok (.ifCond .ne 6, 3) := by decide +kernel
theorem dX11_hall_14 : decode cX11_hall 14 = .ok (.bipush (-4), 2) := by decide +kernel
theorem dX11_hall_16 : decode cX11_hall 16 = .ok (.ireturn, 1) := by decide +kernel
theorem dX11_hall_17 : decode cX11_hall 17 = .ok (.aload_n 0, 1) := by decide +kernel
theorem dX11_hall_18 : decode cX11_hall 18 = .ok (.getfield 10, 3) := by decide +kernel
theorem dX11_hall_21 : decode cX11_hall 21 = .ok (.iconst 0, 1) := by decide +kernel
theorem dX11_hall_22 : decode cX11_hall 22 = .ok (.putfield 104, 3) := by decide +kernel
theorem dX11_hall_25 : decode cX11_hall 25 = .ok (.aload_n 0, 1) := by decide +kernel
theorem dX11_hall_26 : decode cX11_hall 26 = .ok (.getfield 37, 3) := by decide +kernel
theorem dX11_hall_29 : decode cX11_hall 29 = .ok (.astore_n 1, 1) := by decide +kernel
theorem dX11_hall_30 : decode cX11_hall 30 = .ok (.aload_n 0, 1) := by decide +kernel
theorem dX11_hall_31 : decode cX11_hall 31 = .ok (.aload_n 0, 1) := by decide +kernel
theorem dX11_hall_32 : decode cX11_hall 32 = .ok (.getfield 33, 3) := by decide +kernel
theorem dX11_hall_35 : decode cX11_hall 35 = .ok (.putfield 37, 3) := by decide +kernel
theorem dX11_hall_38 : decode cX11_hall 38 = .ok (.aload_n 0, 1) := by decide +kernel
theorem dX11_hall_39 : decode cX11_hall 39 = .ok (.aload_n 1, 1) := by decide +kernel
theorem dX11_hall_40 : decode cX11_hall 40 = .ok (.putfield 33, 3) := by decide +kernel
theorem dX11_hall_43 : decode cX11_hall 43 = .ok (.aload_n 0, 1) := by decide +kernel
theorem dX11_hall_44 : decode cX11_hall 44 = .ok (.getfield 55, 3) := by decide +kernel
theorem dX11_hall_47 : decode cX11_hall 47 = .ok (.aload_n 0, 1) := by decide +kernel
theorem dX11_hall_48 : decode cX11_hall 48 = .ok (.getfield 33, 3) := by decide +kernel
theorem dX11_hall_51 : decode cX11_hall 51 = .ok (.invokevirtual 112, 3) := by decide +kernel
theorem dX11_hall_54 : decode cX11_hall 54 = .ok (.aload_n 0, 1) := by decide +kernel
theorem dX11_hall_55 : decode cX11_hall 55 = .ok (.getfield 33, 3) := by decide +kernel
theorem dX11_hall_58 : decode cX11_hall 58 = .ok (.getfield 115, 3) := by decide +kernel
theorem dX11_hall_61 : decode cX11_hall 61 = .ok (.ireturn, 1) := by decide +kernel
theorem dX11_image_0 : decode cX11_image 0 = .ok (.iload_n 1, 1) := by decide +kernel
theorem dX11_image_1 : decode cX11_image 1 = .ok (.ifCond .lt 8, 3) := by decide +kernel
theorem dX11_image_4 : decode cX11_image 4 = .ok (.iload_n 1, 1) := by decide +kernel
theorem dX11_image_5 : decode cX11_image 5 = .ok (.iconst 3, 1) := by decide +kernel
theorem dX11_image_6 : decode cX11_image 6 = .ok (.if_icmp .lt 6, 3) := by decide +kernel
theorem dX11_image_9 : decode cX11_image 9 = .ok (.bipush (-2), 2) := by decide +kernel
theorem dX11_image_11 : decode cX11_image 11 = .ok (.ireturn, 1) := by decide +kernel
theorem dX11_image_12 : decode cX11_image 12 = .ok (.aload_n 0, 1) := by decide +kernel
theorem dX11_image_13 : decode cX11_image 13 = .ok (.getfield 18, 3) := by decide +kernel
theorem dX11_image_16 : decode cX11_image 16 = .ok (.iload_n 1, 1) := by decide +kernel
theorem dX11_image_17 : decode cX11_image 17 = .ok (.aaload, 1) := by decide +kernel
theorem dX11_image_18 : decode cX11_image 18 = .ok (.aload_n 0, 1) := by decide +kernel
theorem dX11_image_19 : decode cX11_image 19 = .ok (.getfield 33, 3) := by decide +kernel
theorem dX11_image_22 : decode cX11_image 22 = .ok (.invokevirtual 348, 3) := by decide +kernel
theorem dX11_image_25 : decode cX11_image 25 = .ok (.aload_n 0, 1) := by decide +kernel
theorem dX11_image_26 : decode cX11_image 26 = .ok (.getfield 22, 3) := by decide +kernel
theorem dX11_image_29 : decode cX11_image 29 = .ok (.iload_n 1, 1) := by decide +kernel
theorem dX11_image_30 : decode cX11_image 30 = .ok (.iconst 1, 1) := by decide +kernel
theorem dX11_image_31 : decode cX11_image 31 = .ok (.bastore, 1) := by decide +kernel
theorem dX11_image_32 : decode cX11_image 32 = .ok (.iconst 0, 1) := by decide +kernel
theorem dX11_image_33 : decode cX11_image 33 = .ok (.ireturn, 1) := by decide +kernel
theorem dX11_init_0 : decode cX11_init 0 = .ok (.aload_n 0, 1) := by decide +kernel
theorem dX11_init_1 : decode cX11_init 1 = .ok (.invokespecial 1, 3) := by decide +kernel
theorem dX11_init_4 : decode cX11_init 4 = .ok (.aload_n 0, 1) := by decide +kernel
theorem dX11_init_5 : decode cX11_init 5 = .ok (.new 7, 3) := by decide +kernel
theorem dX11_init_8 : decode cX11_init 8 = .ok (.dup, 1) := by decide +kernel
theorem dX11_init_9 : decode cX11_init 9 = .ok (.invokespecial 9, 3) := by decide +kernel
theorem dX11_init_12 : decode cX11_init 12 = .ok (.putfield 10, 3) := by decide +kernel
theorem dX11_init_15 : decode cX11_init 15 = .ok (.aload_n 0, 1) := by decide +kernel
theorem dX11_init_16 : decode cX11_init 16 = .ok (.iconst 3, 1) := by decide +kernel
theorem dX11_init_17 : decode cX11_init 17 = .ok (.anewarray 16, 3) := by decide +kernel
theorem dX11_init_20 : decode cX11_init 20 = .ok (.putfield 18, 3) := by decide +kernel
theorem dX11_init_23 : decode cX11_init 23 = .ok (.aload_n 0, 1) := by decide +kernel
theorem dX11_init_24 : decode cX11_init 24 = .ok (.iconst 3, 1) := by decide +kernel
theorem dX11_init_25 : decode cX11_init 25 = .ok (.newarray .boolean, 2) := by decide +kernel
theorem dX11_init_27 : decode cX11_init 27 = .ok (.putfield 22, 3) := by decide +kernel
theorem dX11_init_30 : decode cX11_init 30 = .ok (.aload_n 0, 1) := by decide +kernel
theorem dX11_init_31 : decode cX11_init 31 = .ok (.iconst 4, 1) := by decide +kernel
theorem dX11_init_32 : decode cX11_init 32 = .ok (.anewarray 26, 3) := by decide +kernel
theorem dX11_init_35 : decode cX11_init 35 = .ok (.putfield 28, 3) := by decide +kernel
theorem dX11_init_38 : decode cX11_init 38 = .ok (.aload_n 0, 1) := by decide +kernel
theorem dX11_init_39 : decode cX11_init 39 = .ok (.new 16, 3) := by decide +kernel
theorem dX11_init_42 : decode cX11_init 42 = .ok (.dup, 1) := by decide +kernel
theorem dX11_init_43 : decode cX11_init 43 = .ok (.invokespecial 32, 3) := by decide +kernel
theorem dX11_init_46 : decode cX11_init 46 = .ok (.putfield 33, 3) := by decide +kernel
theorem dX11_init_49 : decode cX11_init 49 = .ok (.aload_n 0, 1) := by decide +kernel
theorem dX11_init_50 : decode cX11_init 50 = .ok (.new 16, 3) := by decide +kernel
theorem dX11_init_53 : decode cX11_init 53 = .ok (.dup, 1) := by decide +kernel
theorem dX11_init_54 : decode cX11_init 54 = .ok (.invokespecial 32, 3) := by decide +kernel
theorem dX11_init_57 : decode cX11_init 57 = .ok (.putfield 37, 3) := by decide +kernel
theorem dX11_init_60 : decode cX11_init 60 = .ok (.iconst 0, 1) := by decide +kernel
theorem dX11_init_61 : decode cX11_init 61 = .ok (.istore_n 1, 1) := by decide +kernel
theorem dX11_init_62 : decode cX11_init 62 = .ok (.iload_n 1, 1) := by decide +kernel
theorem dX11_init_63 : decode cX11_init 63 = .ok (.iconst 3, 1) := by decide +kernel
theorem dX11_init_64 : decode cX11_init 64 = .ok (.if_icmp .ge 22, 3) := by decide +kernel
theorem dX11_init_67 : decode cX11_init 67 = .ok (.aload_n 0, 1) := by decide +kernel
theorem dX11_init_68 : decode cX11_init 68 = .ok (.getfield 18, 3) := by decide +kernel
theorem dX11_init_71 : decode cX11_init 71 = .ok (.iload_n 1, 1) := by decide +kernel
theorem dX11_init_72 : decode cX11_init 72 = .ok (.new 16, 3) := by decide +kernel
theorem dX11_init_75 : decode cX11_init 75 = .ok (.dup, 1) := by decide +kernel
theorem dX11_init_76 : decode cX11_init 76 = .ok (.invokespecial 32, 3) := by decide +kernel
theorem dX11_init_79 : decode cX11_init 79 = .ok (.aastore, 1) := by decide +kernel
theorem dX11_init_80 : decode cX11_init 80 = .ok (.iinc 1 1, 3) := by decide +kernel
theorem dX11_init_83 : decode cX11_init 83 = .ok (.goto (-21), 3) := by decide +kernel
theorem dX11_init_86 : decode cX11_init 86 = .ok (.iconst 0, 1) := by decide +kernel
theorem dX11_init_87 : decode cX11_init 87 = .ok (.istore_n 1, 1) := by decide +kernel
theorem dX11_init_88 : decode cX11_init 88 = .ok (.iload_n 1, 1) := by decide +kernel
theorem dX11_init_89 : decode cX11_init 89 = .ok (.iconst 4, 1) := by decide +kernel
theorem dX11_init_90 : decode cX11_init 90 = .ok (.if_icmp .ge 22, 3) := by decide +kernel
theorem dX11_init_93 : decode cX11_init 93 = .ok (.aload_n 0, 1) := by decide +kernel
theorem dX11_init_94 : decode cX11_init 94 = .ok (.getfield 28, 3) := by decide +kernel
theorem dX11_init_97 : decode cX11_init 97 = .ok (.iload_n 1, 1) := by decide +kernel
theorem dX11_init_98 : decode cX11_init 98 = .ok (.new 26, 3) := by decide +kernel
theorem dX11_init_101 : decode cX11_init 101 = .ok (.dup, 1) := by decide +kernel
theorem dX11_init_102 : decode cX11_init 102 = .ok (.invokespecial 40, 3) := by decide +kernel
theorem dX11_init_105 : decode cX11_init 105 = .ok (.aastore, 1) := by decide +kernel
theorem dX11_init_106 : decode cX11_init 106 = .ok (.iinc 1 1, 3) := by decide +kernel
theorem dX11_init_109 : decode cX11_init 109 = .ok (.goto (-21), 3) := by decide +kernel
theorem dX11_init_112 : decode cX11_init 112 = .ok (.aload_n 0, 1) := by decide +kernel
theorem dX11_init_113 : decode cX11_init 113 = .ok (.new 41, 3) := by decide +kernel
theorem dX11_init_116 : decode cX11_init 116 = .ok (.dup, 1) := by decide +kernel
theorem dX11_init_117 : decode cX11_init 117 = .ok (.aload_n 0, 1) := by decide +kernel
theorem dX11_init_118 : decode cX11_init 118 = .ok (.getfield 10, 3) := by decide +kernel
theorem dX11_init_121 : decode cX11_init 121 = .ok (.aload_n 0, 1) := by decide +kernel
theorem dX11_init_122 : decode cX11_init 122 = .ok (.getfield 37, 3) := by decide +kernel
theorem dX11_init_125 : decode cX11_init 125 = .ok (.invokespecial 43, 3) := by decide +kernel
theorem dX11_init_128 : decode cX11_init 128 = .ok (.putfield 46, 3) := by decide +kernel
theorem dX11_init_131 : decode cX11_init 131 = .ok (.aload_n 0, 1) := by decide +kernel
theorem dX11_init_132 : decode cX11_init 132 = .ok (.new 50, 3) := by decide +kernel
theorem dX11_init_135 : decode cX11_init 135 = .ok (.dup, 1) := by decide +kernel
theorem dX11_init_136 : decode cX11_init 136 = .ok (.aload_n 0, 1) := by decide +kernel
theorem dX11_init_137 : decode cX11_init 137 = .ok (.getfield 33, 3) := by decide +kernel
theorem dX11_init_140 : decode cX11_init 140 = .ok (.invokespecial 52, 3) := by decide +kernel
theorem dX11_init_143 : decode cX11_init 143 = .ok (.putfield 55, 3) := by decide +kernel
theorem dX11_init_146 : decode cX11_init 146 = .ok (.aload_n 0, 1) := by decide +kernel
theorem dX11_init_147 : decode cX11_init 147 = .ok (.new 59, 3) := by decide +kernel
theorem dX11_init_150 : decode cX11_init 150 = .ok (.dup, 1) := by decide +kernel
theorem dX11_init_151 : decode cX11_init 151 = .ok (.aload_n 0, 1) := by decide +kernel
theorem dX11_init_152 : decode cX11_init 152 = .ok (.getfield 55, 3) := by decide +kernel
theorem dX11_init_155 : decode cX11_init 155 = .ok (.invokespecial 61, 3) := by decide +kernel
theorem dX11_init_158 : decode cX11_init 158 = .ok (.putfield 64, 3) := by decide +kernel
theorem dX11_init_161 : decode cX11_init 161 = .ok (.aload_n 0, 1) := by decide +kernel
theorem dX11_init_162 : decode cX11_init 162 = .ok (.new 68, 3) := by decide +kernel
theorem dX11_init_165 : decode cX11_init 165 = .ok (.dup, 1) := by decide +kernel
theorem dX11_init_166 : decode cX11_init 166 = .ok (.aload_n 0, 1) := by decide +kernel
theorem dX11_init_167 : decode cX11_init 167 = .ok (.getfield 55, 3) := by decide +kernel
theorem dX11_init_170 : decode cX11_init 170 = .ok (.invokespecial 70, 3) := by decide +kernel
theorem dX11_init_173 : decode cX11_init 173 = .ok (.putfield 71, 3) := by decide +kernel
theorem dX11_init_176 : decode cX11_init 176 = .ok (.aload_n 0, 1) := by decide +kernel
theorem dX11_init_177 : decode cX11_init 177 = .ok (.new 75, 3) := by decide +kernel
theorem dX11_init_180 : decode cX11_init 180 = .ok (.dup, 1) := by decide +kernel
theorem dX11_init_181 : decode cX11_init 181 = .ok (.aload_n 0, 1) := by decide +kernel
theorem dX11_init_182 : decode cX11_init 182 = .ok (.getfield 55, 3) := by decide +kernel
theorem dX11_init_185 : decode cX11_init 185 = .ok (.invokespecial 77, 3) := by decide +kernel
theorem dX11_init_188 : decode cX11_init 188 = .ok (.putfield 78, 3) := by decide +kernel
theorem dX11_init_191 : decode cX11_init 191 = .ok (.aload_n 0, 1) := by decide +kernel
theorem dX11_init_192 : decode cX11_init 192 = .ok (.new 82, 3) := by decide +kernel
theorem dX11_init_195 : decode cX11_init 195 = .ok (.dup, 1) := by decide +kernel
theorem dX11_init_196 : decode cX11_init 196 = .ok (.invokespecial 84, 3) := by decide +kernel
theorem dX11_init_199 : decode cX11_init 199 = .ok (.putfield 85, 3) := by decide +kernel
theorem dX11_init_202 : decode cX11_init 202 = .ok (.aload_n 0, 1) := by decide +kernel
theorem dX11_init_203 : decode cX11_init 203 = .ok (.new 89, 3) := by decide +kernel
theorem dX11_init_206 : decode cX11_init 206 = .ok (.dup, 1) := by decide +kernel
theorem dX11_init_207 : decode cX11_init 207 = .ok (.aload_n 0, 1) := by decide +kernel
theorem dX11_init_208 : decode cX11_init 208 = .ok (.getfield 55, 3) := by decide +kernel
theorem dX11_init_211 : decode cX11_init 211 = .ok (.invokespecial 91, 3) := by decide +kernel
theorem dX11_init_214 : decode cX11_init 214 = .ok (.putfield 92, 3) := by decide +kernel
theorem dX11_init_217 : decode cX11_init 217 = .ok (.return_, 1) := by decide +kernel
theorem dX11_isAct_0 : decode cX11_isAct 0 = .ok (.iload_n 0, 1) := by decide +kernel
theorem dX11_isAct_1 : decode cX11_isAct 1 = .ok (.ifCond .lt 13, 3) := by decide +kernel
theorem dX11_isAct_4 : decode cX11_isAct 4 = .ok (.iload_n 0, 1) := by decide +kernel
theorem dX11_isAct_5 : decode cX11_isAct 5 = .ok (.bipush 60, 2) := by decide +kernel
theorem dX11_isAct_7 : decode cX11_isAct 7 = .ok (.if_icmp .ge 7, 3) := by decide +kernel
theorem dX11_isAct_10 : decode cX11_isAct 10 = .ok (.iconst 1, 1) := by decide +kernel
theorem dX11_isAct_11 : decode cX11_isAct 11 = .ok (.goto 4, 3) := by decide +kernel
theorem dX11_isAct_14 : decode cX11_isAct 14 = .ok (.iconst 0, 1) := by decide +kernel
theorem dX11_isAct_15 : decode cX11_isAct 15 = .ok (.ireturn, 1) := by decide +kernel
theorem dX11_isBehind_0 : decode cX11_isBehind 0 = .ok (.iload_n 0, 1) := by decide +kernel
theorem dX11_isBehind_1 : decode cX11_isBehind 1 = .ok (.ifCond .lt 12, 3) := by decide +kernel
theorem dX11_isBehind_4 : decode cX11_isBehind 4 = .ok (.iload_n 0, 1) := by decide +kernel
theorem dX11_isBehind_5 : decode cX11_isBehind 5 = .ok (.iconst 5, 1) := by decide +kernel
theorem dX11_isBehind_6 : decode cX11_isBehind 6 = .ok (.if_icmp .ge 7, 3) := by decide +kernel
theorem dX11_isBehind_9 : decode cX11_isBehind 9 = .ok (.iconst 1, 1) := by decide +kernel
theorem dX11_isBehind_10 : decode cX11_isBehind 10 = .ok (.goto 4, 3) := by decide +kernel
theorem dX11_isBehind_13 : decode cX11_isBehind 13 = .ok (.iconst 0, 1) := by decide +kernel
theorem dX11_isBehind_14 : decode cX11_isBehind 14 = .ok (.ireturn, 1) := by decide +kernel
theorem dX11_isCountOfActs_0 : decode cX11_isCountOfActs 0 = .ok (.iload_n 0, 1) := by decide +kernel
theorem dX11_isCountOfActs_1 : decode cX11_isCountOfActs 1 = .ok (.iconst 1, 1) := by decide +kernel
theorem dX11_isCountOfActs_2 : decode cX11_isCountOfActs 2 = .ok (.if_icmp .lt 13, 3) := by decide +kernel
theorem dX11_isCountOfActs_5 : decode cX11_isCountOfActs 5 = .ok (.iload_n 0, 1) := by decide +kernel
theorem dX11_isCountOfActs_6 : decode cX11_isCountOfActs 6 = .ok (.bipush 60, 2) := by decide +kernel
theorem dX11_isCountOfActs_8 : decode cX11_isCountOfActs 8 = .ok (.if_icmp .gt 7, 3) := by decide +kernel
theorem dX11_isCountOfActs_11 : decode cX11_isCountOfActs 11 = .ok (.iconst 1, 1) := by decide +kernel
theorem dX11_isCountOfActs_12 : decode cX11_isCountOfActs 12 = .ok (.goto 4, 3) := by decide +kernel
theorem dX11_isCountOfActs_15 : decode cX11_isCountOfActs 15 = .ok (.iconst 0, 1) := by decide +kernel
theorem dX11_isCountOfActs_16 : decode cX11_isCountOfActs 16 = .ok (.ireturn, 1) := by decide +kernel
theorem dX11_isSlot_0 : decode cX11_isSlot 0 = .ok (.iload_n 0, 1) := by decide +kernel
theorem dX11_isSlot_1 : decode cX11_isSlot 1 = .ok (.ifCond .lt 12, 3) := by decide +kernel
theorem dX11_isSlot_4 : decode cX11_isSlot 4 = .ok (.iload_n 0, 1) := by decide +kernel
theorem dX11_isSlot_5 : decode cX11_isSlot 5 = .ok (.iconst 4, 1) := by decide +kernel
theorem dX11_isSlot_6 : decode cX11_isSlot 6 = .ok (.if_icmp .ge 7, 3) := by decide +kernel
theorem dX11_isSlot_9 : decode cX11_isSlot 9 = .ok (.iconst 1, 1) := by decide +kernel
theorem dX11_isSlot_10 : decode cX11_isSlot 10 = .ok (.goto 4, 3) := by decide +kernel
theorem dX11_isSlot_13 : decode cX11_isSlot 13 = .ok (.iconst 0, 1) := by decide +kernel
theorem dX11_isSlot_14 : decode cX11_isSlot 14 = .ok (.ireturn, 1) := by decide +kernel
theorem dX11_kept_0 : decode cX11_kept 0 = .ok (.aload_n 0, 1) := by decide +kernel
theorem dX11_kept_1 : decode cX11_kept 1 = .ok (.getfield 33, 3) := by decide +kernel
theorem dX11_kept_4 : decode cX11_kept 4 = .ok (.invokevirtual 179, 3) := by decide +kernel
theorem dX11_kept_7 : decode cX11_kept 7 = .ok (.ifCond .eq 10, 3) := by decide +kernel
theorem dX11_kept_10 : decode cX11_kept 10 = .ok (.iload_n 1, 1) := by decide +kernel
theorem dX11_kept_11 : decode cX11_kept 11 = .ok (.invokestatic 167, 3) := by decide +kernel
theorem dX11_kept_14 : decode cX11_kept 14 = .ok (.ifCond .ne 6, 3) := by decide +kernel
theorem dX11_kept_17 : decode cX11_kept 17 = .ok (.bipush (-2), 2) := by decide +kernel
theorem dX11_kept_19 : decode cX11_kept 19 = .ok (.ireturn, 1) := by decide +kernel
theorem dX11_kept_20 : decode cX11_kept 20 = .ok (.aload_n 0, 1) := by decide +kernel
theorem dX11_kept_21 : decode cX11_kept 21 = .ok (.getfield 55, 3) := by decide +kernel
theorem dX11_kept_24 : decode cX11_kept 24 = .ok (.iload_n 1, 1) := by decide +kernel
theorem dX11_kept_25 : decode cX11_kept 25 = .ok (.invokevirtual 216, 3) := by decide +kernel
theorem dX11_kept_28 : decode cX11_kept 28 = .ok (.ifCond .eq 7, 3) := by decide +kernel
theorem dX11_kept_31 : decode cX11_kept 31 = .ok (.iconst 1, 1) := by decide +kernel
theorem dX11_kept_32 : decode cX11_kept 32 = .ok (.goto 4, 3) := by decide +kernel
theorem dX11_kept_35 : decode cX11_kept 35 = .ok (.iconst 0, 1) := by decide +kernel
theorem dX11_kept_36 : decode cX11_kept 36 = .ok (.ireturn, 1) := by decide +kernel
theorem dX11_king_0 : decode cX11_king 0 = .ok (.iload_n 2, 1) := by decide +kernel
theorem dX11_king_1 : decode cX11_king 1 = .ok (.iconst (-1), 1) := by decide +kernel
theorem dX11_king_2 : decode cX11_king 2 = .ok (.if_icmp .ne 12, 3) := by decide +kernel
theorem dX11_king_5 : decode cX11_king 5 = .ok (.iload_n 3, 1) := by decide +kernel
theorem dX11_king_6 : decode cX11_king 6 = .ok (.iconst (-1), 1) := by decide +kernel
theorem dX11_king_7 : decode cX11_king 7 = .ok (.if_icmp .ne 7, 3) := by decide +kernel
theorem dX11_king_10 : decode cX11_king 10 = .ok (.iconst 1, 1) := by decide +kernel
theorem dX11_king_11 : decode cX11_king 11 = .ok (.goto 4, 3) := by decide +kernel
theorem dX11_king_14 : decode cX11_king 14 = .ok (.iconst 0, 1) := by decide +kernel
theorem dX11_king_15 : decode cX11_king 15 = .ok (.istore 4, 2) := by decide +kernel
theorem dX11_king_17 : decode cX11_king 17 = .ok (.aload_n 0, 1) := by decide +kernel
theorem dX11_king_18 : decode cX11_king 18 = .ok (.getfield 33, 3) := by decide +kernel
theorem dX11_king_21 : decode cX11_king 21 = .ok (.iload_n 1, 1) := by decide +kernel
theorem dX11_king_22 : decode cX11_king 22 = .ok (.invokevirtual 141, 3) := by decide +kernel
theorem dX11_king_25 : decode cX11_king 25 = .ok (.ifCond .eq 27, 3) := by decide +kernel
theorem dX11_king_28 : decode cX11_king 28 = .ok (.iload 4, 2) := by decide +kernel
theorem dX11_king_30 : decode cX11_king 30 = .ok (.ifCond .ne 25, 3) := by decide +kernel
theorem dX11_king_33 : decode cX11_king 33 = .ok (.iload_n 2, 1) := by decide +kernel
theorem dX11_king_34 : decode cX11_king 34 = .ok (.invokestatic 167, 3) := by decide +kernel
theorem dX11_king_37 : decode cX11_king 37 = .ok (.ifCond .eq 15, 3) := by decide +kernel
theorem dX11_king_40 : decode cX11_king 40 = .ok (.iload_n 3, 1) := by decide +kernel
theorem dX11_king_41 : decode cX11_king 41 = .ok (.invokestatic 167, 3) := by decide +kernel
theorem dX11_king_44 : decode cX11_king 44 = .ok (.ifCond .eq 8, 3) := by decide +kernel
theorem dX11_king_47 : decode cX11_king 47 = .ok (.iload_n 3, 1) := by decide +kernel
theorem dX11_king_48 : decode cX11_king 48 = .ok (.iload_n 2, 1) := by decide +kernel
theorem dX11_king_49 : decode cX11_king 49 = .ok (.if_icmp .ge 6, 3) := by decide +kernel
theorem dX11_king_52 : decode cX11_king 52 = .ok (.bipush (-2), 2) := by decide +kernel
theorem dX11_king_54 : decode cX11_king 54 = .ok (.ireturn, 1) := by decide +kernel
theorem dX11_king_55 : decode cX11_king 55 = .ok (.aload_n 0, 1) := by decide +kernel
theorem dX11_king_56 : decode cX11_king 56 = .ok (.getfield 33, 3) := by decide +kernel
theorem dX11_king_59 : decode cX11_king 59 = .ok (.getfield 296, 3) := by decide +kernel
theorem dX11_king_62 : decode cX11_king 62 = .ok (.invokevirtual 300, 3) := by decide +kernel
theorem dX11_king_65 : decode cX11_king 65 = .ok (.ifCond .eq 6, 3) := by decide +kernel
theorem dX11_king_68 : decode cX11_king 68 = .ok (.bipush (-5), 2) := by decide +kernel
theorem dX11_king_70 : decode cX11_king 70 = .ok (.ireturn, 1) := by decide +kernel
theorem dX11_king_71 : decode cX11_king 71 = .ok (.aload_n 0, 1) := by decide +kernel
theorem dX11_king_72 : decode cX11_king 72 = .ok (.getfield 33, 3) := by decide +kernel
theorem dX11_king_75 : decode cX11_king 75 = .ok (.getfield 296, 3) := by decide +kernel
theorem dX11_king_78 : decode cX11_king 78 = .ok (.iconst 1, 1) := by decide +kernel
theorem dX11_king_79 : decode cX11_king 79 = .ok (.iload_n 1, 1) := by decide +kernel
theorem dX11_king_80 : decode cX11_king 80 = .ok (.aload_n 0, 1) := by decide +kernel
theorem dX11_king_81 : decode cX11_king 81 = .ok (.getfield 33, 3) := by decide +kernel
theorem dX11_king_84 : decode cX11_king 84 = .ok (.getfield 150, 3) := by decide +kernel
theorem dX11_king_87 : decode cX11_king 87 = .ok (.iload_n 1, 1) := by decide +kernel
theorem dX11_king_88 : decode cX11_king 88 = .ok (.iaload, 1) := by decide +kernel
theorem dX11_king_89 : decode cX11_king 89 = .ok (.aload_n 0, 1) := by decide +kernel
theorem dX11_king_90 : decode cX11_king 90 = .ok (.getfield 33, 3) := by decide +kernel
theorem dX11_king_93 : decode cX11_king 93 = .ok (.getfield 153, 3) := by decide +kernel
theorem dX11_king_96 : decode cX11_king 96 = .ok (.iload_n 1, 1) := by decide +kernel
theorem dX11_king_97 : decode cX11_king 97 = .ok (.iaload, 1) := by decide +kernel
theorem dX11_king_98 : decode cX11_king 98 = .ok (.invokevirtual 305, 3) := by decide +kernel
theorem dX11_king_101 : decode cX11_king 101 = .ok (.aload_n 0, 1) := by decide +kernel
theorem dX11_king_102 : decode cX11_king 102 = .ok (.getfield 33, 3) := by decide +kernel
theorem dX11_king_105 : decode cX11_king 105 = .ok (.getfield 150, 3) := by decide +kernel
theorem dX11_king_108 : decode cX11_king 108 = .ok (.iload_n 1, 1) := by decide +kernel
theorem dX11_king_109 : decode cX11_king 109 = .ok (.iload_n 2, 1) := by decide +kernel
theorem dX11_king_110 : decode cX11_king 110 = .ok (.iastore, 1) := by decide +kernel
theorem dX11_king_111 : decode cX11_king 111 = .ok (.aload_n 0, 1) := by decide +kernel
theorem dX11_king_112 : decode cX11_king 112 = .ok (.getfield 33, 3) := by decide +kernel
theorem dX11_king_115 : decode cX11_king 115 = .ok (.getfield 153, 3) := by decide +kernel
theorem dX11_king_118 : decode cX11_king 118 = .ok (.iload_n 1, 1) := by decide +kernel
theorem dX11_king_119 : decode cX11_king 119 = .ok (.iload_n 3, 1) := by decide +kernel
theorem dX11_king_120 : decode cX11_king 120 = .ok (.iastore, 1) := by decide +kernel
theorem dX11_king_121 : decode cX11_king 121 = .ok (.aload_n 0, 1) := by decide +kernel
theorem dX11_king_122 : decode cX11_king 122 = .ok (.getfield 55, 3) := by decide +kernel
theorem dX11_king_125 : decode cX11_king 125 = .ok (.aload_n 0, 1) := by decide +kernel
theorem dX11_king_126 : decode cX11_king 126 = .ok (.getfield 33, 3) := by decide +kernel
theorem dX11_king_129 : decode cX11_king 129 = .ok (.invokevirtual 112, 3) := by decide +kernel
theorem dX11_king_132 : decode cX11_king 132 = .ok (.iconst 0, 1) := by decide +kernel
theorem dX11_king_133 : decode cX11_king 133 = .ok (.ireturn, 1) := by decide +kernel
theorem dX11_known_0 : decode cX11_known 0 = .ok (.aload_n 0, 1) := by decide +kernel
theorem dX11_known_1 : decode cX11_known 1 = .ok (.getfield 33, 3) := by decide +kernel
theorem dX11_known_4 : decode cX11_known 4 = .ok (.iload_n 1, 1) := by decide +kernel
theorem dX11_known_5 : decode cX11_known 5 = .ok (.iload_n 2, 1) := by decide +kernel
theorem dX11_known_6 : decode cX11_known 6 = .ok (.invokevirtual 156, 3) := by decide +kernel
theorem dX11_known_9 : decode cX11_known 9 = .ok (.ifCond .eq 10, 3) := by decide +kernel
theorem dX11_known_12 : decode cX11_known 12 = .ok (.iload_n 3, 1) := by decide +kernel
theorem dX11_known_13 : decode cX11_known 13 = .ok (.invokestatic 226, 3) := by decide +kernel
theorem dX11_known_16 : decode cX11_known 16 = .ok (.ifCond .ne 6, 3) := by decide +kernel
theorem dX11_known_19 : decode cX11_known 19 = .ok (.bipush (-2), 2) := by decide +kernel
theorem dX11_known_21 : decode cX11_known 21 = .ok (.ireturn, 1) := by decide +kernel
theorem dX11_known_22 : decode cX11_known 22 = .ok (.aload_n 0, 1) := by decide +kernel
theorem dX11_known_23 : decode cX11_known 23 = .ok (.getfield 71, 3) := by decide +kernel
theorem dX11_known_26 : decode cX11_known 26 = .ok (.iload_n 1, 1) := by decide +kernel
theorem dX11_known_27 : decode cX11_known 27 = .ok (.iload_n 2, 1) := by decide +kernel
theorem dX11_known_28 : decode cX11_known 28 = .ok (.invokestatic 160, 3) := by decide +kernel
theorem dX11_known_31 : decode cX11_known 31 = .ok (.iload_n 3, 1) := by decide +kernel
theorem dX11_known_32 : decode cX11_known 32 = .ok (.invokevirtual 272, 3) := by decide +kernel
theorem dX11_known_35 : decode cX11_known 35 = .ok (.ireturn, 1) := by decide +kernel
theorem dX11_lastly_0 : decode cX11_lastly 0 = .ok (.aload_n 0, 1) := by decide +kernel
theorem dX11_lastly_1 : decode cX11_lastly 1 = .ok (.getfield 33, 3) := by decide +kernel
theorem dX11_lastly_4 : decode cX11_lastly 4 = .ok (.iload_n 1, 1) := by decide +kernel
theorem dX11_lastly_5 : decode cX11_lastly 5 = .ok (.invokevirtual 141, 3) := by decide +kernel
theorem dX11_lastly_8 : decode cX11_lastly 8 = .ok (.ifCond .eq 10, 3) := by decide +kernel
theorem dX11_lastly_11 : decode cX11_lastly 11 = .ok (.iload_n 2, 1) := by decide +kernel
theorem dX11_lastly_12 : decode cX11_lastly 12 = .ok (.invokestatic 167, 3) := by decide +kernel
theorem dX11_lastly_15 : decode cX11_lastly 15 = .ok (.ifCond .ne 6, 3) := by decide +kernel
theorem dX11_lastly_18 : decode cX11_lastly 18 = .ok (.bipush (-2), 2) := by decide +kernel
theorem dX11_lastly_20 : decode cX11_lastly 20 = .ok (.ireturn, 1) := by decide +kernel
theorem dX11_lastly_21 : decode cX11_lastly 21 = .ok (.aload_n 0, 1) := by decide +kernel
theorem dX11_lastly_22 : decode cX11_lastly 22 = .ok (.getfield 55, 3) := by decide +kernel
theorem dX11_lastly_25 : decode cX11_lastly 25 = .ok (.iload_n 1, 1) := by decide +kernel
theorem dX11_lastly_26 : decode cX11_lastly 26 = .ok (.iload_n 2, 1) := by decide +kernel
theorem dX11_lastly_27 : decode cX11_lastly 27 = .ok (.invokevirtual 290, 3) := by decide +kernel
theorem dX11_lastly_30 : decode cX11_lastly 30 = .ok (.istore_n 3, 1) := by decide +kernel
theorem dX11_lastly_31 : decode cX11_lastly 31 = .ok (.iload_n 3, 1) := by decide +kernel
theorem dX11_lastly_32 : decode cX11_lastly 32 = .ok (.iconst (-1), 1) := by decide +kernel
theorem dX11_lastly_33 : decode cX11_lastly 33 = .ok (.if_icmp .ne 7, 3) := by decide +kernel
theorem dX11_lastly_36 : decode cX11_lastly 36 = .ok (.iconst (-1), 1) := by decide +kernel
theorem dX11_lastly_37 : decode cX11_lastly 37 = .ok (.goto 27, 3) := by decide +kernel
theorem dX11_lastly_40 : decode cX11_lastly 40 = .ok (.aload_n 0, 1) := by decide +kernel
theorem dX11_lastly_41 : decode cX11_lastly 41 = .ok (.getfield 55, 3) := by decide +kernel
theorem dX11_lastly_44 : decode cX11_lastly 44 = .ok (.iload_n 1, 1) := by decide +kernel
theorem dX11_lastly_45 : decode cX11_lastly 45 = .ok (.iload_n 3, 1) := by decide +kernel
theorem dX11_lastly_46 : decode cX11_lastly 46 = .ok (.iadd, 1) := by decide +kernel
theorem dX11_lastly_47 : decode cX11_lastly 47 = .ok (.aload_n 0, 1) := by decide +kernel
theorem dX11_lastly_48 : decode cX11_lastly 48 = .ok (.getfield 33, 3) := by decide +kernel
theorem dX11_lastly_51 : decode cX11_lastly 51 = .ok (.getfield 293, 3) := by decide +kernel
theorem dX11_lastly_54 : decode cX11_lastly 54 = .ok (.irem, 1) := by decide +kernel
theorem dX11_lastly_55 : decode cX11_lastly 55 = .ok (.iload_n 2, 1) := by decide +kernel
theorem dX11_lastly_56 : decode cX11_lastly 56 = .ok (.iload_n 3, 1) := by decide +kernel
theorem dX11_lastly_57 : decode cX11_lastly 57 = .ok (.iadd, 1) := by decide +kernel
theorem dX11_lastly_58 : decode cX11_lastly 58 = .ok (.bipush 60, 2) := by decide +kernel
theorem dX11_lastly_60 : decode cX11_lastly 60 = .ok (.irem, 1) := by decide +kernel
theorem dX11_lastly_61 : decode cX11_lastly 61 = .ok (.invokevirtual 170, 3) := by decide +kernel
theorem dX11_lastly_64 : decode cX11_lastly 64 = .ok (.ireturn, 1) := by decide +kernel
theorem dX11_lawful_0 : decode cX11_lawful 0 = .ok (.aload_n 0, 1) := by decide +kernel
theorem dX11_lawful_1 : decode cX11_lawful 1 = .ok (.getfield 33, 3) := by decide +kernel
theorem dX11_lawful_4 : decode cX11_lawful 4 = .ok (.invokevirtual 179, 3) := by decide +kernel
theorem dX11_lawful_7 : decode cX11_lawful 7 = .ok (.ifCond .ne 6, 3) := by decide +kernel
theorem dX11_lawful_10 : decode cX11_lawful 10 = .ok (.bipush (-2), 2) := by decide +kernel
theorem dX11_lawful_12 : decode cX11_lawful 12 = .ok (.ireturn, 1) := by decide +kernel
theorem dX11_lawful_13 : decode cX11_lawful 13 = .ok (.iconst 0, 1) := by decide +kernel
theorem dX11_lawful_14 : decode cX11_lawful 14 = .ok (.istore_n 1, 1) := by decide +kernel
theorem dX11_lawful_15 : decode cX11_lawful 15 = .ok (.iconst 0, 1) := by decide +kernel
theorem dX11_lawful_16 : decode cX11_lawful 16 = .ok (.istore_n 2, 1) := by decide +kernel
theorem dX11_lawful_17 : decode cX11_lawful 17 = .ok (.iload_n 2, 1) := by decide +kernel
theorem dX11_lawful_18 : decode cX11_lawful 18 = .ok (.bipush 60, 2) := by decide +kernel
theorem dX11_lawful_20 : decode cX11_lawful 20 = .ok (.if_icmp .ge 23, 3) := by decide +kernel
theorem dX11_lawful_23 : decode cX11_lawful 23 = .ok (.aload_n 0, 1) := by decide +kernel
theorem dX11_lawful_24 : decode cX11_lawful 24 = .ok (.getfield 55, 3) := by decide +kernel
theorem dX11_lawful_27 : decode cX11_lawful 27 = .ok (.iload_n 2, 1) := by decide +kernel
theorem dX11_lawful_28 : decode cX11_lawful 28 = .ok (.invokevirtual 216, 3) := by decide +kernel
theorem dX11_lawful_31 : decode cX11_lawful 31 = .ok (.ifCond .eq 6, 3) := by decide +kernel
theorem dX11_lawful_34 : decode cX11_lawful 34 = .ok (.iinc 1 1, 3) := by decide +kernel
theorem dX11_lawful_37 : decode cX11_lawful 37 = .ok (.iinc 2 1, 3) := by decide +kernel
theorem dX11_lawful_40 : decode cX11_lawful 40 = .ok (.goto (-23), 3) := by decide +kernel
theorem dX11_lawful_43 : decode cX11_lawful 43 = .ok (.iload_n 1, 1) := by decide +kernel
theorem dX11_lawful_44 : decode cX11_lawful 44 = .ok (.ireturn, 1) := by decide +kernel
theorem dX11_leads_0 : decode cX11_leads 0 = .ok (.aload_n 0, 1) := by decide +kernel
theorem dX11_leads_1 : decode cX11_leads 1 = .ok (.getfield 33, 3) := by decide +kernel
theorem dX11_leads_4 : decode cX11_leads 4 = .ok (.invokevirtual 179, 3) := by decide +kernel
theorem dX11_leads_7 : decode cX11_leads 7 = .ok (.ifCond .eq 17, 3) := by decide +kernel
theorem dX11_leads_10 : decode cX11_leads 10 = .ok (.iload_n 1, 1) := by decide +kernel
theorem dX11_leads_11 : decode cX11_leads 11 = .ok (.invokestatic 167, 3) := by decide +kernel
theorem dX11_leads_14 : decode cX11_leads 14 = .ok (.ifCond .eq 10, 3) := by decide +kernel
theorem dX11_leads_17 : decode cX11_leads 17 = .ok (.iload_n 2, 1) := by decide +kernel
theorem dX11_leads_18 : decode cX11_leads 18 = .ok (.invokestatic 182, 3) := by decide +kernel
theorem dX11_leads_21 : decode cX11_leads 21 = .ok (.ifCond .ne 6, 3) := by decide +kernel
theorem dX11_leads_24 : decode cX11_leads 24 = .ok (.bipush (-2), 2) := by decide +kernel
theorem dX11_leads_26 : decode cX11_leads 26 = .ok (.ireturn, 1) := by decide +kernel
theorem dX11_leads_27 : decode cX11_leads 27 = .ok (.aload_n 0, 1) := by decide +kernel
theorem dX11_leads_28 : decode cX11_leads 28 = .ok (.getfield 55, 3) := by decide +kernel
theorem dX11_leads_31 : decode cX11_leads 31 = .ok (.iload_n 2, 1) := by decide +kernel
theorem dX11_leads_32 : decode cX11_leads 32 = .ok (.iload_n 1, 1) := by decide +kernel
theorem dX11_leads_33 : decode cX11_leads 33 = .ok (.invokevirtual 185, 3) := by decide +kernel
theorem dX11_leads_36 : decode cX11_leads 36 = .ok (.ireturn, 1) := by decide +kernel
theorem dX11_leaves_0 : decode cX11_leaves 0 = .ok (.aload_n 0, 1) := by decide +kernel
theorem dX11_leaves_1 : decode cX11_leaves 1 = .ok (.iload_n 1, 1) := by decide +kernel
theorem dX11_leaves_2 : decode cX11_leaves 2 = .ok (.invokevirtual 243, 3) := by decide +kernel
theorem dX11_leaves_5 : decode cX11_leaves 5 = .ok (.istore_n 2, 1) := by decide +kernel
theorem dX11_leaves_6 : decode cX11_leaves 6 = .ok (.iload_n 2, 1) := by decide +kernel
theorem dX11_leaves_7 : decode cX11_leaves 7 = .ok (.ifCond .eq 7, 3) := by decide +kernel
theorem dX11_leaves_10 : decode cX11_leaves 10 = .ok (.iload_n 2, 1) := by decide +kernel
theorem dX11_leaves_11 : decode cX11_leaves 11 = .ok (.goto 23, 3) := by decide +kernel
theorem dX11_leaves_14 : decode cX11_leaves 14 = .ok (.aload_n 0, 1) := by decide +kernel
theorem dX11_leaves_15 : decode cX11_leaves 15 = .ok (.getfield 64, 3) := by decide +kernel
theorem dX11_leaves_18 : decode cX11_leaves 18 = .ok (.aload_n 0, 1) := by decide +kernel
theorem dX11_leaves_19 : decode cX11_leaves 19 = .ok (.getfield 64, 3) := by decide +kernel
theorem dX11_leaves_22 : decode cX11_leaves 22 = .ok (.aload_n 0, 1) := by decide +kernel
theorem dX11_leaves_23 : decode cX11_leaves 23 = .ok (.getfield 28, 3) := by decide +kernel
theorem dX11_leaves_26 : decode cX11_leaves 26 = .ok (.iload_n 1, 1) := by decide +kernel
theorem dX11_leaves_27 : decode cX11_leaves 27 = .ok (.aaload, 1) := by decide +kernel
theorem dX11_leaves_28 : decode cX11_leaves 28 = .ok (.invokevirtual 246, 3) := by decide +kernel
theorem dX11_leaves_31 : decode cX11_leaves 31 = .ok (.invokevirtual 254, 3) := by decide +kernel
theorem dX11_leaves_34 : decode cX11_leaves 34 = .ok (.ireturn, 1) := by decide +kernel
theorem dX11_lucky_0 : decode cX11_lucky 0 = .ok (.aload_n 0, 1) := by decide +kernel
theorem dX11_lucky_1 : decode cX11_lucky 1 = .ok (.iload_n 1, 1) := by decide +kernel
theorem dX11_lucky_2 : decode cX11_lucky 2 = .ok (.iload_n 3, 1) := by decide +kernel
theorem dX11_lucky_3 : decode cX11_lucky 3 = .ok (.invokevirtual 318, 3) := by decide +kernel
theorem dX11_lucky_6 : decode cX11_lucky 6 = .ok (.ifCond .eq 14, 3) := by decide +kernel
theorem dX11_lucky_9 : decode cX11_lucky 9 = .ok (.iload_n 2, 1) := by decide +kernel
theorem dX11_lucky_10 : decode cX11_lucky 10 = .ok (.iconst 1, 1) := by decide +kernel
theorem dX11_lucky_11 : decode cX11_lucky 11 = .ok (.if_icmp .lt 9, 3) := by decide +kernel
theorem dX11_lucky_14 : decode cX11_lucky 14 = .ok (.iload_n 2, 1) := by decide +kernel
theorem dX11_lucky_15 : decode cX11_lucky 15 = .ok (.bipush 20, 2) := by decide +kernel
theorem dX11_lucky_17 : decode cX11_lucky 17 = .ok (.if_icmp .le 6, 3) := by decide +kernel
theorem dX11_lucky_20 : decode cX11_lucky 20 = .ok (.bipush (-2), 2) := by decide +kernel
theorem dX11_lucky_22 : decode cX11_lucky 22 = .ok (.ireturn, 1) := by decide +kernel
theorem dX11_lucky_23 : decode cX11_lucky 23 = .ok (.iconst 0, 1) := by decide +kernel
theorem dX11_lucky_24 : decode cX11_lucky 24 = .ok (.istore 4, 2) := by decide +kernel
theorem dX11_lucky_26 : decode cX11_lucky 26 = .ok (.iconst 0, 1) := by decide +kernel
theorem dX11_lucky_27 : decode cX11_lucky 27 = .ok (.istore 5, 2) := by decide +kernel
theorem dX11_lucky_29 : decode cX11_lucky 29 = .ok (.iload 5, 2) := by decide +kernel
theorem dX11_lucky_31 : decode cX11_lucky 31 = .ok (.iload_n 2, 1) := by decide +kernel
theorem dX11_lucky_32 : decode cX11_lucky 32 = .ok (.if_icmp .ge 35, 3) := by decide +kernel
theorem dX11_lucky_35 : decode cX11_lucky 35 = .ok (.aload_n 0, 1) := by decide +kernel
theorem dX11_lucky_36 : decode cX11_lucky 36 = .ok (.getfield 92, 3) := by decide +kernel
theorem dX11_lucky_39 : decode cX11_lucky 39 = .ok (.iload_n 1, 1) := by decide +kernel
theorem dX11_lucky_40 : decode cX11_lucky 40 = .ok (.iload 5, 2) := by decide +kernel
theorem dX11_lucky_42 : decode cX11_lucky 42 = .ok (.iadd, 1) := by decide +kernel
theorem dX11_lucky_43 : decode cX11_lucky 43 = .ok (.i2l, 1) := by decide +kernel
theorem dX11_lucky_44 : decode cX11_lucky 44 = .ok (.iload_n 3, 1) := by decide +kernel
theorem dX11_lucky_45 : decode cX11_lucky 45 = .ok (.invokevirtual 321, 3) := by decide +kernel
theorem dX11_lucky_48 : decode cX11_lucky 48 = .ok (.aload_n 0, 1) := by decide +kernel
theorem dX11_lucky_49 : decode cX11_lucky 49 = .ok (.getfield 92, 3) := by decide +kernel
theorem dX11_lucky_52 : decode cX11_lucky 52 = .ok (.invokevirtual 331, 3) := by decide +kernel
theorem dX11_lucky_55 : decode cX11_lucky 55 = .ok (.ifCond .eq 6, 3) := by decide +kernel
theorem dX11_lucky_58 : decode cX11_lucky 58 = .ok (.iinc 4 1, 3) := by decide +kernel
theorem dX11_lucky_61 : decode cX11_lucky 61 = .ok (.iinc 5 1, 3) := by decide +kernel
theorem dX11_lucky_64 : decode cX11_lucky 64 = .ok (.goto (-35), 3) := by decide +kernel
theorem dX11_lucky_67 : decode cX11_lucky 67 = .ok (.iload 4, 2) := by decide +kernel
theorem dX11_lucky_69 : decode cX11_lucky 69 = .ok (.ireturn, 1) := by decide +kernel
theorem dX11_lured_0 : decode cX11_lured 0 = .ok (.aload_n 0, 1) := by decide +kernel
theorem dX11_lured_1 : decode cX11_lured 1 = .ok (.getfield 33, 3) := by decide +kernel
theorem dX11_lured_4 : decode cX11_lured 4 = .ok (.invokevirtual 179, 3) := by decide +kernel
theorem dX11_lured_7 : decode cX11_lured 7 = .ok (.ifCond .eq 17, 3) := by decide +kernel
theorem dX11_lured_10 : decode cX11_lured 10 = .ok (.iload_n 1, 1) := by decide +kernel
theorem dX11_lured_11 : decode cX11_lured 11 = .ok (.invokestatic 167, 3) := by decide +kernel
theorem dX11_lured_14 : decode cX11_lured 14 = .ok (.ifCond .eq 10, 3) := by decide +kernel
theorem dX11_lured_17 : decode cX11_lured 17 = .ok (.iload_n 2, 1) := by decide +kernel
theorem dX11_lured_18 : decode cX11_lured 18 = .ok (.invokestatic 182, 3) := by decide +kernel
theorem dX11_lured_21 : decode cX11_lured 21 = .ok (.ifCond .ne 6, 3) := by decide +kernel
theorem dX11_lured_24 : decode cX11_lured 24 = .ok (.bipush (-2), 2) := by decide +kernel
theorem dX11_lured_26 : decode cX11_lured 26 = .ok (.ireturn, 1) := by decide +kernel
theorem dX11_lured_27 : decode cX11_lured 27 = .ok (.aload_n 0, 1) := by decide +kernel
theorem dX11_lured_28 : decode cX11_lured 28 = .ok (.getfield 55, 3) := by decide +kernel
theorem dX11_lured_31 : decode cX11_lured 31 = .ok (.iload_n 2, 1) := by decide +kernel
theorem dX11_lured_32 : decode cX11_lured 32 = .ok (.iload_n 1, 1) := by decide +kernel
theorem dX11_lured_33 : decode cX11_lured 33 = .ok (.invokevirtual 287, 3) := by decide +kernel
theorem dX11_lured_36 : decode cX11_lured 36 = .ok (.ireturn, 1) := by decide +kernel
theorem dX11_many_0 : decode cX11_many 0 = .ok (.aload_n 0, 1) := by decide +kernel
theorem dX11_many_1 : decode cX11_many 1 = .ok (.iload_n 1, 1) := by decide +kernel
theorem dX11_many_2 : decode cX11_many 2 = .ok (.invokevirtual 257, 3) := by decide +kernel
theorem dX11_many_5 : decode cX11_many 5 = .ok (.istore_n 2, 1) := by decide +kernel
theorem dX11_many_6 : decode cX11_many 6 = .ok (.iload_n 2, 1) := by decide +kernel
theorem dX11_many_7 : decode cX11_many 7 = .ok (.ifCond .eq 7, 3) := by decide +kernel
theorem dX11_many_10 : decode cX11_many 10 = .ok (.iload_n 2, 1) := by decide +kernel
theorem dX11_many_11 : decode cX11_many 11 = .ok (.goto 19, 3) := by decide +kernel
theorem dX11_many_14 : decode cX11_many 14 = .ok (.aload_n 0, 1) := by decide +kernel
theorem dX11_many_15 : decode cX11_many 15 = .ok (.getfield 64, 3) := by decide +kernel
theorem dX11_many_18 : decode cX11_many 18 = .ok (.aload_n 0, 1) := by decide +kernel
theorem dX11_many_19 : decode cX11_many 19 = .ok (.getfield 28, 3) := by decide +kernel
theorem dX11_many_22 : decode cX11_many 22 = .ok (.iload_n 1, 1) := by decide +kernel
theorem dX11_many_23 : decode cX11_many 23 = .ok (.aaload, 1) := by decide +kernel
theorem dX11_many_24 : decode cX11_many 24 = .ok (.invokevirtual 260, 3) := by decide +kernel
theorem dX11_many_27 : decode cX11_many 27 = .ok (.invokestatic 263, 3) := by decide +kernel
theorem dX11_many_30 : decode cX11_many 30 = .ok (.ireturn, 1) := by decide +kernel
theorem dX11_needs_0 : decode cX11_needs 0 = .ok (.aload_n 0, 1) := by decide +kernel
theorem dX11_needs_1 : decode cX11_needs 1 = .ok (.getfield 33, 3) := by decide +kernel
theorem dX11_needs_4 : decode cX11_needs 4 = .ok (.invokevirtual 179, 3) := by decide +kernel
theorem dX11_needs_7 : decode cX11_needs 7 = .ok (.ifCond .ne 6, 3) := by decide +kernel
theorem dX11_needs_10 : decode cX11_needs 10 = .ok (.bipush (-2), 2) := by decide +kernel
theorem dX11_needs_12 : decode cX11_needs 12 = .ok (.ireturn, 1) := by decide +kernel
theorem dX11_needs_13 : decode cX11_needs 13 = .ok (.iconst 1, 1) := by decide +kernel
theorem dX11_needs_14 : decode cX11_needs 14 = .ok (.istore_n 1, 1) := by decide +kernel
theorem dX11_needs_15 : decode cX11_needs 15 = .ok (.iload_n 1, 1) := by decide +kernel
theorem dX11_needs_16 : decode cX11_needs 16 = .ok (.bipush 7, 2) := by decide +kernel
theorem dX11_needs_18 : decode cX11_needs 18 = .ok (.if_icmp .gt 34, 3) := by decide +kernel
theorem dX11_needs_21 : decode cX11_needs 21 = .ok (.aload_n 0, 1) := by decide +kernel
theorem dX11_needs_22 : decode cX11_needs 22 = .ok (.getfield 85, 3) := by decide +kernel
theorem dX11_needs_25 : decode cX11_needs 25 = .ok (.aload_n 0, 1) := by decide +kernel
theorem dX11_needs_26 : decode cX11_needs 26 = .ok (.getfield 33, 3) := by decide +kernel
theorem dX11_needs_29 : decode cX11_needs 29 = .ok (.iload_n 1, 1) := by decide +kernel
theorem dX11_needs_30 : decode cX11_needs 30 = .ok (.aload_n 0, 1) := by decide +kernel
theorem dX11_needs_31 : decode cX11_needs 31 = .ok (.getfield 33, 3) := by decide +kernel
theorem dX11_needs_34 : decode cX11_needs 34 = .ok (.getfield 237, 3) := by decide +kernel
theorem dX11_needs_37 : decode cX11_needs 37 = .ok (.invokevirtual 233, 3) := by decide +kernel
theorem dX11_needs_40 : decode cX11_needs 40 = .ok (.iconst (-1), 1) := by decide +kernel
theorem dX11_needs_41 : decode cX11_needs 41 = .ok (.if_icmp .eq 5, 3) := by decide +kernel
theorem dX11_needs_44 : decode cX11_needs 44 = .ok (.iload_n 1, 1) := by decide +kernel
theorem dX11_needs_45 : decode cX11_needs 45 = .ok (.ireturn, 1) := by decide +kernel
theorem dX11_needs_46 : decode cX11_needs 46 = .ok (.iinc 1 1, 3) := by decide +kernel
theorem dX11_needs_49 : decode cX11_needs 49 = .ok (.goto (-34), 3) := by decide +kernel
theorem dX11_needs_52 : decode cX11_needs 52 = .ok (.iconst (-1), 1) := by decide +kernel
theorem dX11_needs_53 : decode cX11_needs 53 = .ok (.ireturn, 1) := by decide +kernel
theorem dX11_next_0 : decode cX11_next 0 = .ok (.aload_n 0, 1) := by decide +kernel
theorem dX11_next_1 : decode cX11_next 1 = .ok (.getfield 33, 3) := by decide +kernel
theorem dX11_next_4 : decode cX11_next 4 = .ok (.iload_n 1, 1) := by decide +kernel
theorem dX11_next_5 : decode cX11_next 5 = .ok (.invokevirtual 141, 3) := by decide +kernel
theorem dX11_next_8 : decode cX11_next 8 = .ok (.ifCond .eq 21, 3) := by decide +kernel
theorem dX11_next_11 : decode cX11_next 11 = .ok (.aload_n 0, 1) := by decide +kernel
theorem dX11_next_12 : decode cX11_next 12 = .ok (.getfield 33, 3) := by decide +kernel
theorem dX11_next_15 : decode cX11_next 15 = .ok (.iload_n 2, 1) := by decide +kernel
theorem dX11_next_16 : decode cX11_next 16 = .ok (.invokevirtual 124, 3) := by decide +kernel
theorem dX11_next_19 : decode cX11_next 19 = .ok (.ifCond .eq 10, 3) := by decide +kernel
theorem dX11_next_22 : decode cX11_next 22 = .ok (.iload_n 3, 1) := by decide +kernel
theorem dX11_next_23 : decode cX11_next 23 = .ok (.invokestatic 167, 3) := by decide +kernel
theorem dX11_next_26 : decode cX11_next 26 = .ok (.ifCond .ne 6, 3) := by decide +kernel
theorem dX11_next_29 : decode cX11_next 29 = .ok (.bipush (-2), 2) := by decide +kernel
theorem dX11_next_31 : decode cX11_next 31 = .ok (.ireturn, 1) := by decide +kernel
theorem dX11_next_32 : decode cX11_next 32 = .ok (.iload_n 3, 1) := by decide +kernel
theorem dX11_next_33 : decode cX11_next 33 = .ok (.istore 4, 2) := by decide +kernel
theorem dX11_next_35 : decode cX11_next 35 = .ok (.iload 4, 2) := by decide +kernel
theorem dX11_next_37 : decode cX11_next 37 = .ok (.bipush 60, 2) := by decide +kernel
theorem dX11_next_39 : decode cX11_next 39 = .ok (.if_icmp .ge 26, 3) := by decide +kernel
theorem dX11_next_42 : decode cX11_next 42 = .ok (.aload_n 0, 1) := by decide +kernel
theorem dX11_next_43 : decode cX11_next 43 = .ok (.getfield 55, 3) := by decide +kernel
theorem dX11_next_46 : decode cX11_next 46 = .ok (.iload_n 1, 1) := by decide +kernel
theorem dX11_next_47 : decode cX11_next 47 = .ok (.iload 4, 2) := by decide +kernel
theorem dX11_next_49 : decode cX11_next 49 = .ok (.invokevirtual 170, 3) := by decide +kernel
theorem dX11_next_52 : decode cX11_next 52 = .ok (.iload_n 2, 1) := by decide +kernel
theorem dX11_next_53 : decode cX11_next 53 = .ok (.if_icmp .ne 6, 3) := by decide +kernel
theorem dX11_next_56 : decode cX11_next 56 = .ok (.iload 4, 2) := by decide +kernel
theorem dX11_next_58 : decode cX11_next 58 = .ok (.ireturn, 1) := by decide +kernel
theorem dX11_next_59 : decode cX11_next 59 = .ok (.iinc 4 1, 3) := by decide +kernel
theorem dX11_next_62 : decode cX11_next 62 = .ok (.goto (-27), 3) := by decide +kernel
theorem dX11_next_65 : decode cX11_next 65 = .ok (.iconst (-1), 1) := by decide +kernel
theorem dX11_next_66 : decode cX11_next 66 = .ok (.ireturn, 1) := by decide +kernel
theorem dX11_out_0 : decode cX11_out 0 = .ok (.aload_n 0, 1) := by decide +kernel
theorem dX11_out_1 : decode cX11_out 1 = .ok (.getfield 33, 3) := by decide +kernel
theorem dX11_out_4 : decode cX11_out 4 = .ok (.invokevirtual 179, 3) := by decide +kernel
theorem dX11_out_7 : decode cX11_out 7 = .ok (.ifCond .eq 20, 3) := by decide +kernel
theorem dX11_out_10 : decode cX11_out 10 = .ok (.iload_n 1, 1) := by decide +kernel
theorem dX11_out_11 : decode cX11_out 11 = .ok (.invokestatic 167, 3) := by decide +kernel
theorem dX11_out_14 : decode cX11_out 14 = .ok (.ifCond .eq 13, 3) := by decide +kernel
theorem dX11_out_17 : decode cX11_out 17 = .ok (.iload_n 2, 1) := by decide +kernel
theorem dX11_out_18 : decode cX11_out 18 = .ok (.ifCond .lt 9, 3) := by decide +kernel
theorem dX11_out_21 : decode cX11_out 21 = .ok (.iload_n 2, 1) := by decide +kernel
theorem dX11_out_22 : decode cX11_out 22 = .ok (.bipush 20, 2) := by decide +kernel
theorem dX11_out_24 : decode cX11_out 24 = .ok (.if_icmp .le 6, 3) := by decide +kernel
theorem dX11_out_27 : decode cX11_out 27 = .ok (.bipush (-2), 2) := by decide +kernel
theorem dX11_out_29 : decode cX11_out 29 = .ok (.ireturn, 1) := by decide +kernel
theorem dX11_out_30 : decode cX11_out 30 = .ok (.aload_n 0, 1) := by decide +kernel
theorem dX11_out_31 : decode cX11_out 31 = .ok (.getfield 78, 3) := by decide +kernel
theorem dX11_out_34 : decode cX11_out 34 = .ok (.iload_n 1, 1) := by decide +kernel
theorem dX11_out_35 : decode cX11_out 35 = .ok (.iload_n 2, 1) := by decide +kernel
theorem dX11_out_36 : decode cX11_out 36 = .ok (.iconst (-1), 1) := by decide +kernel
theorem dX11_out_37 : decode cX11_out 37 = .ok (.invokevirtual 219, 3) := by decide +kernel
theorem dX11_out_40 : decode cX11_out 40 = .ok (.ireturn, 1) := by decide +kernel
theorem dX11_paste_0 : decode cX11_paste 0 = .ok (.iload_n 1, 1) := by decide +kernel
theorem dX11_paste_1 : decode cX11_paste 1 = .ok (.invokestatic 351, 3) := by decide +kernel
theorem dX11_paste_4 : decode cX11_paste 4 = .ok (.ifCond .eq 10, 3) := by decide +kernel
theorem dX11_paste_7 : decode cX11_paste 7 = .ok (.iload_n 3, 1) := by decide +kernel
theorem dX11_paste_8 : decode cX11_paste 8 = .ok (.invokestatic 351, 3) := by decide +kernel
theorem dX11_paste_11 : decode cX11_paste 11 = .ok (.ifCond .ne 6, 3) := by decide +kernel
theorem dX11_paste_14 : decode cX11_paste 14 = .ok (.bipush (-2), 2) := by decide +kernel
theorem dX11_paste_16 : decode cX11_paste 16 = .ok (.ireturn, 1) := by decide +kernel
theorem dX11_paste_17 : decode cX11_paste 17 = .ok (.aload_n 0, 1) := by decide +kernel
theorem dX11_paste_18 : decode cX11_paste 18 = .ok (.getfield 28, 3) := by decide +kernel
theorem dX11_paste_21 : decode cX11_paste 21 = .ok (.iload_n 1, 1) := by decide +kernel
theorem dX11_paste_22 : decode cX11_paste 22 = .ok (.aaload, 1) := by decide +kernel
theorem dX11_paste_23 : decode cX11_paste 23 = .ok (.astore 6, 2) := by decide +kernel
theorem dX11_paste_25 : decode cX11_paste 25 = .ok (.aload_n 0, 1) := by decide +kernel
theorem dX11_paste_26 : decode cX11_paste 26 = .ok (.getfield 28, 3) := by decide +kernel
theorem dX11_paste_29 : decode cX11_paste 29 = .ok (.iload_n 3, 1) := by decide +kernel
theorem dX11_paste_30 : decode cX11_paste 30 = .ok (.aaload, 1) := by decide +kernel
theorem dX11_paste_31 : decode cX11_paste 31 = .ok (.astore 7, 2) := by decide +kernel
theorem dX11_paste_33 : decode cX11_paste 33 = .ok (.aload 6, 2) := by decide +kernel
theorem dX11_paste_35 : decode cX11_paste 35 = .ok (.invokevirtual 358, 3) := by decide +kernel
theorem dX11_paste_38 : decode cX11_paste 38 = .ok (.ifCond .eq 11, 3) := by decide +kernel
theorem dX11_paste_41 : decode cX11_paste 41 = .ok (.aload 7, 2) := by decide +kernel
theorem dX11_paste_43 : decode cX11_paste 43 = .ok (.invokevirtual 358, 3) := by decide +kernel
theorem dX11_paste_46 : decode cX11_paste 46 = .ok (.ifCond .ne 6, 3) := by decide +kernel
theorem dX11_paste_49 : decode cX11_paste 49 = .ok (.bipush (-6), 2) := by decide +kernel
theorem dX11_paste_51 : decode cX11_paste 51 = .ok (.ireturn, 1) := by decide +kernel
theorem dX11_paste_52 : decode cX11_paste 52 = .ok (.aload 6, 2) := by decide +kernel
theorem dX11_paste_54 : decode cX11_paste 54 = .ok (.getfield 366, 3) := by decide +kernel
theorem dX11_paste_57 : decode cX11_paste 57 = .ok (.aload 7, 2) := by decide +kernel
theorem dX11_paste_59 : decode cX11_paste 59 = .ok (.getfield 366, 3) := by decide +kernel
theorem dX11_paste_62 : decode cX11_paste 62 = .ok (.if_icmp .eq 6, 3) := by decide +kernel
theorem dX11_paste_65 : decode cX11_paste 65 = .ok (.bipush (-8), 2) := by decide +kernel
theorem dX11_paste_67 : decode cX11_paste 67 = .ok (.ireturn, 1) := by decide +kernel
theorem dX11_paste_68 : decode cX11_paste 68 = .ok (.aload 6, 2) := by decide +kernel
theorem dX11_paste_70 : decode cX11_paste 70 = .ok (.iload_n 2, 1) := by decide +kernel
theorem dX11_paste_71 : decode cX11_paste 71 = .ok (.iload 5, 2) := by decide +kernel
theorem dX11_paste_73 : decode cX11_paste 73 = .ok (.invokevirtual 369, 3) := by decide +kernel
theorem dX11_paste_76 : decode cX11_paste 76 = .ok (.ifCond .eq 15, 3) := by decide +kernel
theorem dX11_paste_79 : decode cX11_paste 79 = .ok (.aload 7, 2) := by decide +kernel
theorem dX11_paste_81 : decode cX11_paste 81 = .ok (.iload 4, 2) := by decide +kernel
theorem dX11_paste_83 : decode cX11_paste 83 = .ok (.iload 5, 2) := by decide +kernel
theorem dX11_paste_85 : decode cX11_paste 85 = .ok (.invokevirtual 369, 3) := by decide +kernel
theorem dX11_paste_88 : decode cX11_paste 88 = .ok (.ifCond .ne 6, 3) := by decide +kernel
theorem dX11_paste_91 : decode cX11_paste 91 = .ok (.bipush (-7), 2) := by decide +kernel
theorem dX11_paste_93 : decode cX11_paste 93 = .ok (.ireturn, 1) := by decide +kernel
theorem dX11_paste_94 : decode cX11_paste 94 = .ok (.aload 6, 2) := by decide +kernel
theorem dX11_paste_96 : decode cX11_paste 96 = .ok (.getfield 372, 3) := by decide +kernel
theorem dX11_paste_99 : decode cX11_paste 99 = .ok (.iload_n 2, 1) := by decide +kernel
theorem dX11_paste_100 : decode cX11_paste 100 = .ok (.aload 7, 2) := by decide +kernel
theorem dX11_paste_102 : decode cX11_paste 102 = .ok (.getfield 372, 3) := by decide +kernel
theorem dX11_paste_105 : decode cX11_paste 105 = .ok (.iload 4, 2) := by decide +kernel
theorem dX11_paste_107 : decode cX11_paste 107 = .ok (.iload 5, 2) := by decide +kernel
theorem dX11_paste_109 : decode cX11_paste 109 = .ok (.invokestatic 376, 3) := by decide +kernel
theorem dX11_paste_112 : decode cX11_paste 112 = .ok (.iconst 0, 1) := by decide +kernel
theorem dX11_paste_113 : decode cX11_paste 113 = .ok (.ireturn, 1) := by decide +kernel
theorem dX11_place_0 : decode cX11_place 0 = .ok (.aload_n 0, 1) := by decide +kernel
theorem dX11_place_1 : decode cX11_place 1 = .ok (.getfield 33, 3) := by decide +kernel
theorem dX11_place_4 : decode cX11_place 4 = .ok (.iload_n 1, 1) := by decide +kernel
theorem dX11_place_5 : decode cX11_place 5 = .ok (.invokevirtual 124, 3) := by decide +kernel
theorem dX11_place_8 : decode cX11_place 8 = .ok (.ifCond .ne 6, 3) := by decide +kernel
theorem dX11_place_11 : decode cX11_place 11 = .ok (.bipush (-2), 2) := by decide +kernel
theorem dX11_place_13 : decode cX11_place 13 = .ok (.ireturn, 1) := by decide +kernel
theorem dX11_place_14 : decode cX11_place 14 = .ok (.iload_n 2, 1) := by decide +kernel
theorem dX11_place_15 : decode cX11_place 15 = .ok (.tableswitch 69 0 3 #[29, 39, 49, 59], 29) := by decide +kernel
theorem dX11_place_44 : decode cX11_place 44 = .ok (.aload_n 0, 1) := by decide +kernel
theorem dX11_place_45 : decode cX11_place 45 = .ok (.getfield 33, 3) := by decide +kernel
theorem dX11_place_48 : decode cX11_place 48 = .ok (.getfield 128, 3) := by decide +kernel
theorem dX11_place_51 : decode cX11_place 51 = .ok (.iload_n 1, 1) := by decide +kernel
theorem dX11_place_52 : decode cX11_place 52 = .ok (.iaload, 1) := by decide +kernel
theorem dX11_place_53 : decode cX11_place 53 = .ok (.ireturn, 1) := by decide +kernel
theorem dX11_place_54 : decode cX11_place 54 = .ok (.aload_n 0, 1) := by decide +kernel
theorem dX11_place_55 : decode cX11_place 55 = .ok (.getfield 33, 3) := by decide +kernel
theorem dX11_place_58 : decode cX11_place 58 = .ok (.getfield 132, 3) := by decide +kernel
theorem dX11_place_61 : decode cX11_place 61 = .ok (.iload_n 1, 1) := by decide +kernel
theorem dX11_place_62 : decode cX11_place 62 = .ok (.iaload, 1) := by decide +kernel
theorem dX11_place_63 : decode cX11_place 63 = .ok (.ireturn, 1) := by decide +kernel
theorem dX11_place_64 : decode cX11_place 64 = .ok (.aload_n 0, 1) := by decide +kernel
theorem dX11_place_65 : decode cX11_place 65 = .ok (.getfield 33, 3) := by decide +kernel
theorem dX11_place_68 : decode cX11_place 68 = .ok (.getfield 135, 3) := by decide +kernel
theorem dX11_place_71 : decode cX11_place 71 = .ok (.iload_n 1, 1) := by decide +kernel
theorem dX11_place_72 : decode cX11_place 72 = .ok (.iaload, 1) := by decide +kernel
theorem dX11_place_73 : decode cX11_place 73 = .ok (.ireturn, 1) := by decide +kernel
theorem dX11_place_74 : decode cX11_place 74 = .ok (.aload_n 0, 1) := by decide +kernel
theorem dX11_place_75 : decode cX11_place 75 = .ok (.getfield 33, 3) := by decide +kernel
theorem dX11_place_78 : decode cX11_place 78 = .ok (.getfield 138, 3) := by decide +kernel
theorem dX11_place_81 : decode cX11_place 81 = .ok (.iload_n 1, 1) := by decide +kernel
theorem dX11_place_82 : decode cX11_place 82 = .ok (.iaload, 1) := by decide +kernel
theorem dX11_place_83 : decode cX11_place 83 = .ok (.ireturn, 1) := by decide +kernel
theorem dX11_place_84 : decode cX11_place 84 = .ok (.bipush (-2), 2) := by decide +kernel
theorem dX11_place_86 : decode cX11_place 86 = .ok (.ireturn, 1) := by decide +kernel
theorem dX11_quickest_0 : decode cX11_quickest 0 = .ok (.aload_n 0, 1) := by decide +kernel
theorem dX11_quickest_1 : decode cX11_quickest 1 = .ok (.getfield 33, 3) := by decide +kernel
theorem dX11_quickest_4 : decode cX11_quickest 4 = .ok (.invokevirtual 179, 3) := by decide +kernel
theorem dX11_quickest_7 : decode cX11_quickest 7 = .ok (.ifCond .eq 10, 3) := by decide +kernel
theorem dX11_quickest_10 : decode cX11_quickest 10 = .ok (.iload_n 1, 1) := by decide +kernel
theorem dX11_quickest_11 : decode cX11_quickest 11 = .ok (.invokestatic 226, 3) := by decide +kernel
theorem dX11_quickest_14 : decode cX11_quickest 14 = .ok (.ifCond .ne 6, 3) := by decide +kernel
theorem dX11_quickest_17 : decode cX11_quickest 17 = .ok (.bipush (-2), 2) := by decide +kernel
theorem dX11_quickest_19 : decode cX11_quickest 19 = .ok (.ireturn, 1) := by decide +kernel
theorem dX11_quickest_20 : decode cX11_quickest 20 = .ok (.iconst (-1), 1) := by decide +kernel
theorem dX11_quickest_21 : decode cX11_quickest 21 = .ok (.istore_n 2, 1) := by decide +kernel
theorem dX11_quickest_22 : decode cX11_quickest 22 = .ok (.bipush 20, 2) := by decide +kernel
theorem dX11_quickest_24 : decode cX11_quickest 24 = .ok (.istore_n 3, 1) := by decide +kernel
theorem dX11_quickest_25 : decode cX11_quickest 25 = .ok (.iconst 0, 1) := by decide +kernel
theorem dX11_quickest_26 : decode cX11_quickest 26 = .ok (.istore 4, 2) := by decide +kernel
theorem dX11_quickest_28 : decode cX11_quickest 28 = .ok (.iload 4, 2) := by decide +kernel
theorem dX11_quickest_30 : decode cX11_quickest 30 = .ok (.iload_n 1, 1) := by decide +kernel
theorem dX11_quickest_31 : decode cX11_quickest 31 = .ok (.if_icmp .ge 35, 3) := by decide +kernel
theorem dX11_quickest_34 : decode cX11_quickest 34 = .ok (.aload_n 0, 1) := by decide +kernel
theorem dX11_quickest_35 : decode cX11_quickest 35 = .ok (.getfield 78, 3) := by decide +kernel
theorem dX11_quickest_38 : decode cX11_quickest 38 = .ok (.iload 4, 2) := by decide +kernel
theorem dX11_quickest_40 : decode cX11_quickest 40 = .ok (.iload_n 3, 1) := by decide +kernel
theorem dX11_quickest_41 : decode cX11_quickest 41 = .ok (.invokevirtual 223, 3) := by decide +kernel
theorem dX11_quickest_44 : decode cX11_quickest 44 = .ok (.istore 5, 2) := by decide +kernel
theorem dX11_quickest_46 : decode cX11_quickest 46 = .ok (.iload 5, 2) := by decide +kernel
theorem dX11_quickest_48 : decode cX11_quickest 48 = .ok (.iconst (-1), 1) := by decide +kernel
theorem dX11_quickest_49 : decode cX11_quickest 49 = .ok (.if_icmp .eq 11, 3) := by decide +kernel
theorem dX11_quickest_52 : decode cX11_quickest 52 = .ok (.iload 4, 2) := by decide +kernel
theorem dX11_quickest_54 : decode cX11_quickest 54 = .ok (.istore_n 2, 1) := by decide +kernel
theorem dX11_quickest_55 : decode cX11_quickest 55 = .ok (.iload 5, 2) := by decide +kernel
theorem dX11_quickest_57 : decode cX11_quickest 57 = .ok (.iconst 1, 1) := by decide +kernel
theorem dX11_quickest_58 : decode cX11_quickest 58 = .ok (.isub, 1) := by decide +kernel
theorem dX11_quickest_59 : decode cX11_quickest 59 = .ok (.istore_n 3, 1) := by decide +kernel
theorem dX11_quickest_60 : decode cX11_quickest 60 = .ok (.iinc 4 1, 3) := by decide +kernel
theorem dX11_quickest_63 : decode cX11_quickest 63 = .ok (.goto (-35), 3) := by decide +kernel
theorem dX11_quickest_66 : decode cX11_quickest 66 = .ok (.iload_n 2, 1) := by decide +kernel
theorem dX11_quickest_67 : decode cX11_quickest 67 = .ok (.ireturn, 1) := by decide +kernel
theorem dX11_refusalOfFell_0 : decode cX11_refusalOfFell 0 = .ok (.aload_n 0, 1) := by decide +kernel
theorem dX11_refusalOfFell_1 : decode cX11_refusalOfFell 1 = .ok (.iload_n 1, 1) := by decide +kernel
theorem dX11_refusalOfFell_2 : decode cX11_refusalOfFell 2 = .ok (.iconst 3, 1) := by decide +kernel
theorem dX11_refusalOfFell_3 : decode cX11_refusalOfFell 3 = .ok (.invokevirtual 383, 3) := by decide +kernel
theorem dX11_refusalOfFell_6 : decode cX11_refusalOfFell 6 = .ok (.istore_n 2, 1) := by decide +kernel
theorem dX11_refusalOfFell_7 : decode cX11_refusalOfFell 7 = .ok (.iload_n 2, 1) := by decide +kernel
theorem dX11_refusalOfFell_8 : decode cX11_refusalOfFell 8 = .ok (.ifCond .eq 5, 3) := by decide +kernel
theorem dX11_refusalOfFell_11 : decode cX11_refusalOfFell 11 = .ok (.iload_n 2, 1) := by decide +kernel
theorem dX11_refusalOfFell_12 : decode cX11_refusalOfFell 12 = .ok (.ireturn, 1) := by decide +kernel
theorem dX11_refusalOfFell_13 : decode cX11_refusalOfFell 13 = .ok (.aload_n 0, 1) := by decide +kernel
theorem dX11_refusalOfFell_14 : decode cX11_refusalOfFell 14 = .ok (.getfield 64, 3) := by decide +kernel
theorem dX11_refusalOfFell_17 : decode cX11_refusalOfFell 17 = .ok (.aload_n 0, 1) := by decide +kernel
theorem dX11_refusalOfFell_18 : decode cX11_refusalOfFell 18 = .ok (.getfield 28, 3) := by decide +kernel
theorem dX11_refusalOfFell_21 : decode cX11_refusalOfFell 21 = .ok (.iload_n 1, 1) := by decide +kernel
theorem dX11_refusalOfFell_22 : decode cX11_refusalOfFell 22 = .ok (.aaload, 1) := by decide +kernel
theorem dX11_refusalOfFell_23 : decode cX11_refusalOfFell 23 = .ok (.invokevirtual 390, 3) := by decide +kernel
theorem dX11_refusalOfFell_26 : decode cX11_refusalOfFell 26 = .ok (.ifCond .eq 7, 3) := by decide +kernel
theorem dX11_refusalOfFell_29 : decode cX11_refusalOfFell 29 = .ok (.iconst 0, 1) := by decide +kernel
theorem dX11_refusalOfFell_30 : decode cX11_refusalOfFell 30 = .ok (.goto 5, 3) := by decide +kernel
theorem dX11_refusalOfFell_33 : decode cX11_refusalOfFell 33 = .ok (.bipush (-2), 2) := by decide +kernel
theorem dX11_refusalOfFell_35 : decode cX11_refusalOfFell 35 = .ok (.ireturn, 1) := by decide +kernel
theorem dX11_refusalOfRow_0 : decode cX11_refusalOfRow 0 = .ok (.iload_n 1, 1) := by decide +kernel
theorem dX11_refusalOfRow_1 : decode cX11_refusalOfRow 1 = .ok (.invokestatic 351, 3) := by decide +kernel
theorem dX11_refusalOfRow_4 : decode cX11_refusalOfRow 4 = .ok (.ifCond .eq 18, 3) := by decide +kernel
theorem dX11_refusalOfRow_7 : decode cX11_refusalOfRow 7 = .ok (.aload_n 0, 1) := by decide +kernel
theorem dX11_refusalOfRow_8 : decode cX11_refusalOfRow 8 = .ok (.getfield 33, 3) := by decide +kernel
theorem dX11_refusalOfRow_11 : decode cX11_refusalOfRow 11 = .ok (.invokevirtual 179, 3) := by decide +kernel
theorem dX11_refusalOfRow_14 : decode cX11_refusalOfRow 14 = .ok (.ifCond .eq 8, 3) := by decide +kernel
theorem dX11_refusalOfRow_17 : decode cX11_refusalOfRow 17 = .ok (.iload_n 2, 1) := by decide +kernel
theorem dX11_refusalOfRow_18 : decode cX11_refusalOfRow 18 = .ok (.iconst 1, 1) := by decide +kernel
theorem dX11_refusalOfRow_19 : decode cX11_refusalOfRow 19 = .ok (.if_icmp .ge 6, 3) := by decide +kernel
theorem dX11_refusalOfRow_22 : decode cX11_refusalOfRow 22 = .ok (.bipush (-2), 2) := by decide +kernel
theorem dX11_refusalOfRow_24 : decode cX11_refusalOfRow 24 = .ok (.ireturn, 1) := by decide +kernel
theorem dX11_refusalOfRow_25 : decode cX11_refusalOfRow 25 = .ok (.aload_n 0, 1) := by decide +kernel
theorem dX11_refusalOfRow_26 : decode cX11_refusalOfRow 26 = .ok (.getfield 28, 3) := by decide +kernel
theorem dX11_refusalOfRow_29 : decode cX11_refusalOfRow 29 = .ok (.iload_n 1, 1) := by decide +kernel
theorem dX11_refusalOfRow_30 : decode cX11_refusalOfRow 30 = .ok (.aaload, 1) := by decide +kernel
theorem dX11_refusalOfRow_31 : decode cX11_refusalOfRow 31 = .ok (.invokevirtual 358, 3) := by decide +kernel
theorem dX11_refusalOfRow_34 : decode cX11_refusalOfRow 34 = .ok (.ifCond .ne 6, 3) := by decide +kernel
theorem dX11_refusalOfRow_37 : decode cX11_refusalOfRow 37 = .ok (.bipush (-6), 2) := by decide +kernel
theorem dX11_refusalOfRow_39 : decode cX11_refusalOfRow 39 = .ok (.ireturn, 1) := by decide +kernel
theorem dX11_refusalOfRow_40 : decode cX11_refusalOfRow 40 = .ok (.aload_n 0, 1) := by decide +kernel
theorem dX11_refusalOfRow_41 : decode cX11_refusalOfRow 41 = .ok (.getfield 28, 3) := by decide +kernel
theorem dX11_refusalOfRow_44 : decode cX11_refusalOfRow 44 = .ok (.iload_n 1, 1) := by decide +kernel
theorem dX11_refusalOfRow_45 : decode cX11_refusalOfRow 45 = .ok (.aaload, 1) := by decide +kernel
theorem dX11_refusalOfRow_46 : decode cX11_refusalOfRow 46 = .ok (.getfield 361, 3) := by decide +kernel
theorem dX11_refusalOfRow_49 : decode cX11_refusalOfRow 49 = .ok (.iload_n 2, 1) := by decide +kernel
theorem dX11_refusalOfRow_50 : decode cX11_refusalOfRow 50 = .ok (.irem, 1) := by decide +kernel
theorem dX11_refusalOfRow_51 : decode cX11_refusalOfRow 51 = .ok (.ifCond .ne 7, 3) := by decide +kernel
theorem dX11_refusalOfRow_54 : decode cX11_refusalOfRow 54 = .ok (.iconst 0, 1) := by decide +kernel
theorem dX11_refusalOfRow_55 : decode cX11_refusalOfRow 55 = .ok (.goto 5, 3) := by decide +kernel
theorem dX11_refusalOfRow_58 : decode cX11_refusalOfRow 58 = .ok (.bipush (-2), 2) := by decide +kernel
theorem dX11_refusalOfRow_60 : decode cX11_refusalOfRow 60 = .ok (.ireturn, 1) := by decide +kernel
theorem dX11_refusalOfSeen_0 : decode cX11_refusalOfSeen 0 = .ok (.aload_n 0, 1) := by decide +kernel
theorem dX11_refusalOfSeen_1 : decode cX11_refusalOfSeen 1 = .ok (.iload_n 1, 1) := by decide +kernel
theorem dX11_refusalOfSeen_2 : decode cX11_refusalOfSeen 2 = .ok (.iconst 2, 1) := by decide +kernel
theorem dX11_refusalOfSeen_3 : decode cX11_refusalOfSeen 3 = .ok (.invokevirtual 383, 3) := by decide +kernel
theorem dX11_refusalOfSeen_6 : decode cX11_refusalOfSeen 6 = .ok (.istore_n 2, 1) := by decide +kernel
theorem dX11_refusalOfSeen_7 : decode cX11_refusalOfSeen 7 = .ok (.iload_n 2, 1) := by decide +kernel
theorem dX11_refusalOfSeen_8 : decode cX11_refusalOfSeen 8 = .ok (.ifCond .eq 5, 3) := by decide +kernel
theorem dX11_refusalOfSeen_11 : decode cX11_refusalOfSeen 11 = .ok (.iload_n 2, 1) := by decide +kernel
theorem dX11_refusalOfSeen_12 : decode cX11_refusalOfSeen 12 = .ok (.ireturn, 1) := by decide +kernel
theorem dX11_refusalOfSeen_13 : decode cX11_refusalOfSeen 13 = .ok (.aload_n 0, 1) := by decide +kernel
theorem dX11_refusalOfSeen_14 : decode cX11_refusalOfSeen 14 = .ok (.getfield 64, 3) := by decide +kernel
theorem dX11_refusalOfSeen_17 : decode cX11_refusalOfSeen 17 = .ok (.aload_n 0, 1) := by decide +kernel
theorem dX11_refusalOfSeen_18 : decode cX11_refusalOfSeen 18 = .ok (.getfield 28, 3) := by decide +kernel
theorem dX11_refusalOfSeen_21 : decode cX11_refusalOfSeen 21 = .ok (.iload_n 1, 1) := by decide +kernel
theorem dX11_refusalOfSeen_22 : decode cX11_refusalOfSeen 22 = .ok (.aaload, 1) := by decide +kernel
theorem dX11_refusalOfSeen_23 : decode cX11_refusalOfSeen 23 = .ok (.invokevirtual 386, 3) := by decide +kernel
theorem dX11_refusalOfSeen_26 : decode cX11_refusalOfSeen 26 = .ok (.ifCond .eq 7, 3) := by decide +kernel
theorem dX11_refusalOfSeen_29 : decode cX11_refusalOfSeen 29 = .ok (.iconst 0, 1) := by decide +kernel
theorem dX11_refusalOfSeen_30 : decode cX11_refusalOfSeen 30 = .ok (.goto 5, 3) := by decide +kernel
theorem dX11_refusalOfSeen_33 : decode cX11_refusalOfSeen 33 = .ok (.bipush (-2), 2) := by decide +kernel
theorem dX11_refusalOfSeen_35 : decode cX11_refusalOfSeen 35 = .ok (.ireturn, 1) := by decide +kernel
theorem dX11_round_0 : decode cX11_round 0 = .ok (.aload_n 0, 1) := by decide +kernel
theorem dX11_round_1 : decode cX11_round 1 = .ok (.getfield 33, 3) := by decide +kernel
theorem dX11_round_4 : decode cX11_round 4 = .ok (.invokevirtual 179, 3) := by decide +kernel
theorem dX11_round_7 : decode cX11_round 7 = .ok (.ifCond .ne 6, 3) := by decide +kernel
theorem dX11_round_10 : decode cX11_round 10 = .ok (.bipush (-2), 2) := by decide +kernel
theorem dX11_round_12 : decode cX11_round 12 = .ok (.ireturn, 1) := by decide +kernel
theorem dX11_round_13 : decode cX11_round 13 = .ok (.iconst 1, 1) := by decide +kernel
theorem dX11_round_14 : decode cX11_round 14 = .ok (.istore_n 1, 1) := by decide +kernel
theorem dX11_round_15 : decode cX11_round 15 = .ok (.iload_n 1, 1) := by decide +kernel
theorem dX11_round_16 : decode cX11_round 16 = .ok (.bipush 60, 2) := by decide +kernel
theorem dX11_round_18 : decode cX11_round 18 = .ok (.if_icmp .ge 23, 3) := by decide +kernel
theorem dX11_round_21 : decode cX11_round 21 = .ok (.aload_n 0, 1) := by decide +kernel
theorem dX11_round_22 : decode cX11_round 22 = .ok (.getfield 55, 3) := by decide +kernel
theorem dX11_round_25 : decode cX11_round 25 = .ok (.iconst 0, 1) := by decide +kernel
theorem dX11_round_26 : decode cX11_round 26 = .ok (.iload_n 1, 1) := by decide +kernel
theorem dX11_round_27 : decode cX11_round 27 = .ok (.invokevirtual 192, 3) := by decide +kernel
theorem dX11_round_30 : decode cX11_round 30 = .ok (.ifCond .eq 5, 3) := by decide +kernel
theorem dX11_round_33 : decode cX11_round 33 = .ok (.iload_n 1, 1) := by decide +kernel
theorem dX11_round_34 : decode cX11_round 34 = .ok (.ireturn, 1) := by decide +kernel
theorem dX11_round_35 : decode cX11_round 35 = .ok (.iinc 1 1, 3) := by decide +kernel
theorem dX11_round_38 : decode cX11_round 38 = .ok (.goto (-23), 3) := by decide +kernel
theorem dX11_round_41 : decode cX11_round 41 = .ok (.iconst (-1), 1) := by decide +kernel
theorem dX11_round_42 : decode cX11_round 42 = .ok (.ireturn, 1) := by decide +kernel
theorem dX11_row_0 : decode cX11_row 0 = .ok (.iload_n 1, 1) := by decide +kernel
theorem dX11_row_1 : decode cX11_row 1 = .ok (.invokestatic 351, 3) := by decide +kernel
theorem dX11_row_4 : decode cX11_row 4 = .ok (.ifCond .eq 18, 3) := by decide +kernel
theorem dX11_row_7 : decode cX11_row 7 = .ok (.iload_n 2, 1) := by decide +kernel
theorem dX11_row_8 : decode cX11_row 8 = .ok (.ifCond .lt 14, 3) := by decide +kernel
theorem dX11_row_11 : decode cX11_row 11 = .ok (.iload_n 2, 1) := by decide +kernel
theorem dX11_row_12 : decode cX11_row 12 = .ok (.iconst 4, 1) := by decide +kernel
theorem dX11_row_13 : decode cX11_row 13 = .ok (.if_icmp .ge 9, 3) := by decide +kernel
theorem dX11_row_16 : decode cX11_row 16 = .ok (.iload_n 3, 1) := by decide +kernel
theorem dX11_row_17 : decode cX11_row 17 = .ok (.bipush 60, 2) := by decide +kernel
theorem dX11_row_19 : decode cX11_row 19 = .ok (.if_icmp .le 6, 3) := by decide +kernel
theorem dX11_row_22 : decode cX11_row 22 = .ok (.bipush (-2), 2) := by decide +kernel
theorem dX11_row_24 : decode cX11_row 24 = .ok (.ireturn, 1) := by decide +kernel
theorem dX11_row_25 : decode cX11_row 25 = .ok (.iload_n 3, 1) := by decide +kernel
theorem dX11_row_26 : decode cX11_row 26 = .ok (.ifCond .ge 6, 3) := by decide +kernel
theorem dX11_row_29 : decode cX11_row 29 = .ok (.bipush (-3), 2) := by decide +kernel
theorem dX11_row_31 : decode cX11_row 31 = .ok (.ireturn, 1) := by decide +kernel
theorem dX11_row_32 : decode cX11_row 32 = .ok (.aload_n 0, 1) := by decide +kernel
theorem dX11_row_33 : decode cX11_row 33 = .ok (.getfield 28, 3) := by decide +kernel
theorem dX11_row_36 : decode cX11_row 36 = .ok (.iload_n 1, 1) := by decide +kernel
theorem dX11_row_37 : decode cX11_row 37 = .ok (.aaload, 1) := by decide +kernel
theorem dX11_row_38 : decode cX11_row 38 = .ok (.iload_n 2, 1) := by decide +kernel
theorem dX11_row_39 : decode cX11_row 39 = .ok (.iload_n 3, 1) := by decide +kernel
theorem dX11_row_40 : decode cX11_row 40 = .ok (.invokevirtual 354, 3) := by decide +kernel
theorem dX11_row_43 : decode cX11_row 43 = .ok (.iconst 0, 1) := by decide +kernel
theorem dX11_row_44 : decode cX11_row 44 = .ok (.ireturn, 1) := by decide +kernel
theorem dX11_screw_0 : decode cX11_screw 0 = .ok (.aload_n 0, 1) := by decide +kernel
theorem dX11_screw_1 : decode cX11_screw 1 = .ok (.getfield 33, 3) := by decide +kernel
theorem dX11_screw_4 : decode cX11_screw 4 = .ok (.iload_n 1, 1) := by decide +kernel
theorem dX11_screw_5 : decode cX11_screw 5 = .ok (.invokevirtual 124, 3) := by decide +kernel
theorem dX11_screw_8 : decode cX11_screw 8 = .ok (.ifCond .eq 13, 3) := by decide +kernel
theorem dX11_screw_11 : decode cX11_screw 11 = .ok (.iload_n 2, 1) := by decide +kernel
theorem dX11_screw_12 : decode cX11_screw 12 = .ok (.ifCond .lt 9, 3) := by decide +kernel
theorem dX11_screw_15 : decode cX11_screw 15 = .ok (.iload_n 2, 1) := by decide +kernel
theorem dX11_screw_16 : decode cX11_screw 16 = .ok (.bipush 9, 2) := by decide +kernel
theorem dX11_screw_18 : decode cX11_screw 18 = .ok (.if_icmp .lt 6, 3) := by decide +kernel
theorem dX11_screw_21 : decode cX11_screw 21 = .ok (.bipush (-2), 2) := by decide +kernel
theorem dX11_screw_23 : decode cX11_screw 23 = .ok (.ireturn, 1) := by decide +kernel
theorem dX11_screw_24 : decode cX11_screw 24 = .ok (.aload_n 0, 1) := by decide +kernel
theorem dX11_screw_25 : decode cX11_screw 25 = .ok (.getfield 33, 3) := by decide +kernel
theorem dX11_screw_28 : decode cX11_screw 28 = .ok (.getfield 296, 3) := by decide +kernel
theorem dX11_screw_31 : decode cX11_screw 31 = .ok (.invokevirtual 300, 3) := by decide +kernel
theorem dX11_screw_34 : decode cX11_screw 34 = .ok (.ifCond .eq 6, 3) := by decide +kernel
theorem dX11_screw_37 : decode cX11_screw 37 = .ok (.bipush (-5), 2) := by decide +kernel
theorem dX11_screw_39 : decode cX11_screw 39 = .ok (.ireturn, 1) := by decide +kernel
theorem dX11_screw_40 : decode cX11_screw 40 = .ok (.aload_n 0, 1) := by decide +kernel
theorem dX11_screw_41 : decode cX11_screw 41 = .ok (.getfield 33, 3) := by decide +kernel
theorem dX11_screw_44 : decode cX11_screw 44 = .ok (.getfield 138, 3) := by decide +kernel
theorem dX11_screw_47 : decode cX11_screw 47 = .ok (.iload_n 1, 1) := by decide +kernel
theorem dX11_screw_48 : decode cX11_screw 48 = .ok (.iaload, 1) := by decide +kernel
theorem dX11_screw_49 : decode cX11_screw 49 = .ok (.istore_n 3, 1) := by decide +kernel
theorem dX11_screw_50 : decode cX11_screw 50 = .ok (.aload_n 0, 1) := by decide +kernel
theorem dX11_screw_51 : decode cX11_screw 51 = .ok (.getfield 33, 3) := by decide +kernel
theorem dX11_screw_54 : decode cX11_screw 54 = .ok (.getfield 296, 3) := by decide +kernel
theorem dX11_screw_57 : decode cX11_screw 57 = .ok (.iconst 0, 1) := by decide +kernel
theorem dX11_screw_58 : decode cX11_screw 58 = .ok (.iload_n 1, 1) := by decide +kernel
theorem dX11_screw_59 : decode cX11_screw 59 = .ok (.iload_n 3, 1) := by decide +kernel
theorem dX11_screw_60 : decode cX11_screw 60 = .ok (.iconst (-1), 1) := by decide +kernel
theorem dX11_screw_61 : decode cX11_screw 61 = .ok (.invokevirtual 305, 3) := by decide +kernel
theorem dX11_screw_64 : decode cX11_screw 64 = .ok (.aload_n 0, 1) := by decide +kernel
theorem dX11_screw_65 : decode cX11_screw 65 = .ok (.getfield 33, 3) := by decide +kernel
theorem dX11_screw_68 : decode cX11_screw 68 = .ok (.getfield 138, 3) := by decide +kernel
theorem dX11_screw_71 : decode cX11_screw 71 = .ok (.iload_n 1, 1) := by decide +kernel
theorem dX11_screw_72 : decode cX11_screw 72 = .ok (.iload_n 2, 1) := by decide +kernel
theorem dX11_screw_73 : decode cX11_screw 73 = .ok (.iastore, 1) := by decide +kernel
theorem dX11_screw_74 : decode cX11_screw 74 = .ok (.aload_n 0, 1) := by decide +kernel
theorem dX11_screw_75 : decode cX11_screw 75 = .ok (.getfield 55, 3) := by decide +kernel
theorem dX11_screw_78 : decode cX11_screw 78 = .ok (.aload_n 0, 1) := by decide +kernel
theorem dX11_screw_79 : decode cX11_screw 79 = .ok (.getfield 33, 3) := by decide +kernel
theorem dX11_screw_82 : decode cX11_screw 82 = .ok (.invokevirtual 112, 3) := by decide +kernel
theorem dX11_screw_85 : decode cX11_screw 85 = .ok (.iload_n 3, 1) := by decide +kernel
theorem dX11_screw_86 : decode cX11_screw 86 = .ok (.ireturn, 1) := by decide +kernel
theorem dX11_screws_0 : decode cX11_screws 0 = .ok (.aload_n 0, 1) := by decide +kernel
theorem dX11_screws_1 : decode cX11_screws 1 = .ok (.getfield 33, 3) := by decide +kernel
theorem dX11_screws_4 : decode cX11_screws 4 = .ok (.invokevirtual 179, 3) := by decide +kernel
theorem dX11_screws_7 : decode cX11_screws 7 = .ok (.ifCond .eq 10, 3) := by decide +kernel
theorem dX11_screws_10 : decode cX11_screws 10 = .ok (.iload_n 1, 1) := by decide +kernel
theorem dX11_screws_11 : decode cX11_screws 11 = .ok (.invokestatic 167, 3) := by decide +kernel
theorem dX11_screws_14 : decode cX11_screws 14 = .ok (.ifCond .ne 6, 3) := by decide +kernel
theorem dX11_screws_17 : decode cX11_screws 17 = .ok (.bipush (-2), 2) := by decide +kernel
theorem dX11_screws_19 : decode cX11_screws 19 = .ok (.ireturn, 1) := by decide +kernel
theorem dX11_screws_20 : decode cX11_screws 20 = .ok (.iload_n 1, 1) := by decide +kernel
theorem dX11_screws_21 : decode cX11_screws 21 = .ok (.istore_n 2, 1) := by decide +kernel
theorem dX11_screws_22 : decode cX11_screws 22 = .ok (.iload_n 2, 1) := by decide +kernel
theorem dX11_screws_23 : decode cX11_screws 23 = .ok (.bipush 60, 2) := by decide +kernel
theorem dX11_screws_25 : decode cX11_screws 25 = .ok (.if_icmp .ge 24, 3) := by decide +kernel
theorem dX11_screws_28 : decode cX11_screws 28 = .ok (.aload_n 0, 1) := by decide +kernel
theorem dX11_screws_29 : decode cX11_screws 29 = .ok (.getfield 55, 3) := by decide +kernel
theorem dX11_screws_32 : decode cX11_screws 32 = .ok (.iload_n 2, 1) := by decide +kernel
theorem dX11_screws_33 : decode cX11_screws 33 = .ok (.invokevirtual 216, 3) := by decide +kernel
theorem dX11_screws_36 : decode cX11_screws 36 = .ok (.ifCond .eq 7, 3) := by decide +kernel
theorem dX11_screws_39 : decode cX11_screws 39 = .ok (.iload_n 2, 1) := by decide +kernel
theorem dX11_screws_40 : decode cX11_screws 40 = .ok (.iload_n 1, 1) := by decide +kernel
theorem dX11_screws_41 : decode cX11_screws 41 = .ok (.isub, 1) := by decide +kernel
theorem dX11_screws_42 : decode cX11_screws 42 = .ok (.ireturn, 1) := by decide +kernel
theorem dX11_screws_43 : decode cX11_screws 43 = .ok (.iinc 2 1, 3) := by decide +kernel
theorem dX11_screws_46 : decode cX11_screws 46 = .ok (.goto (-24), 3) := by decide +kernel
theorem dX11_screws_49 : decode cX11_screws 49 = .ok (.iconst (-1), 1) := by decide +kernel
theorem dX11_screws_50 : decode cX11_screws 50 = .ok (.ireturn, 1) := by decide +kernel
theorem dX11_seats_0 : decode cX11_seats 0 = .ok (.aload_n 0, 1) := by decide +kernel
theorem dX11_seats_1 : decode cX11_seats 1 = .ok (.getfield 33, 3) := by decide +kernel
theorem dX11_seats_4 : decode cX11_seats 4 = .ok (.iload_n 1, 1) := by decide +kernel
theorem dX11_seats_5 : decode cX11_seats 5 = .ok (.iload_n 2, 1) := by decide +kernel
theorem dX11_seats_6 : decode cX11_seats 6 = .ok (.invokevirtual 156, 3) := by decide +kernel
theorem dX11_seats_9 : decode cX11_seats 9 = .ok (.ifCond .eq 12, 3) := by decide +kernel
theorem dX11_seats_12 : decode cX11_seats 12 = .ok (.iload_n 3, 1) := by decide +kernel
theorem dX11_seats_13 : decode cX11_seats 13 = .ok (.ifCond .lt 8, 3) := by decide +kernel
theorem dX11_seats_16 : decode cX11_seats 16 = .ok (.iload_n 3, 1) := by decide +kernel
theorem dX11_seats_17 : decode cX11_seats 17 = .ok (.iconst 1, 1) := by decide +kernel
theorem dX11_seats_18 : decode cX11_seats 18 = .ok (.if_icmp .le 6, 3) := by decide +kernel
theorem dX11_seats_21 : decode cX11_seats 21 = .ok (.bipush (-2), 2) := by decide +kernel
theorem dX11_seats_23 : decode cX11_seats 23 = .ok (.ireturn, 1) := by decide +kernel
theorem dX11_seats_24 : decode cX11_seats 24 = .ok (.aload_n 0, 1) := by decide +kernel
theorem dX11_seats_25 : decode cX11_seats 25 = .ok (.getfield 33, 3) := by decide +kernel
theorem dX11_seats_28 : decode cX11_seats 28 = .ok (.getfield 296, 3) := by decide +kernel
theorem dX11_seats_31 : decode cX11_seats 31 = .ok (.invokevirtual 300, 3) := by decide +kernel
theorem dX11_seats_34 : decode cX11_seats 34 = .ok (.ifCond .eq 6, 3) := by decide +kernel
theorem dX11_seats_37 : decode cX11_seats 37 = .ok (.bipush (-5), 2) := by decide +kernel
theorem dX11_seats_39 : decode cX11_seats 39 = .ok (.ireturn, 1) := by decide +kernel
theorem dX11_seats_40 : decode cX11_seats 40 = .ok (.iload_n 1, 1) := by decide +kernel
theorem dX11_seats_41 : decode cX11_seats 41 = .ok (.iload_n 2, 1) := by decide +kernel
theorem dX11_seats_42 : decode cX11_seats 42 = .ok (.invokestatic 160, 3) := by decide +kernel
theorem dX11_seats_45 : decode cX11_seats 45 = .ok (.istore 4, 2) := by decide +kernel
theorem dX11_seats_47 : decode cX11_seats 47 = .ok (.aload_n 0, 1) := by decide +kernel
theorem dX11_seats_48 : decode cX11_seats 48 = .ok (.getfield 33, 3) := by decide +kernel
theorem dX11_seats_51 : decode cX11_seats 51 = .ok (.iload 4, 2) := by decide +kernel
theorem dX11_seats_53 : decode cX11_seats 53 = .ok (.invokevirtual 164, 3) := by decide +kernel
theorem dX11_seats_56 : decode cX11_seats 56 = .ok (.ifCond .eq 7, 3) := by decide +kernel
theorem dX11_seats_59 : decode cX11_seats 59 = .ok (.iconst 1, 1) := by decide +kernel
theorem dX11_seats_60 : decode cX11_seats 60 = .ok (.goto 4, 3) := by decide +kernel
theorem dX11_seats_63 : decode cX11_seats 63 = .ok (.iconst 0, 1) := by decide +kernel
theorem dX11_seats_64 : decode cX11_seats 64 = .ok (.istore 5, 2) := by decide +kernel
theorem dX11_seats_66 : decode cX11_seats 66 = .ok (.aload_n 0, 1) := by decide +kernel
theorem dX11_seats_67 : decode cX11_seats 67 = .ok (.getfield 33, 3) := by decide +kernel
theorem dX11_seats_70 : decode cX11_seats 70 = .ok (.getfield 296, 3) := by decide +kernel
theorem dX11_seats_73 : decode cX11_seats 73 = .ok (.iconst 2, 1) := by decide +kernel
theorem dX11_seats_74 : decode cX11_seats 74 = .ok (.iload 4, 2) := by decide +kernel
theorem dX11_seats_76 : decode cX11_seats 76 = .ok (.iload 5, 2) := by decide +kernel
theorem dX11_seats_78 : decode cX11_seats 78 = .ok (.iconst (-1), 1) := by decide +kernel
theorem dX11_seats_79 : decode cX11_seats 79 = .ok (.invokevirtual 305, 3) := by decide +kernel
theorem dX11_seats_82 : decode cX11_seats 82 = .ok (.aload_n 0, 1) := by decide +kernel
theorem dX11_seats_83 : decode cX11_seats 83 = .ok (.getfield 33, 3) := by decide +kernel
theorem dX11_seats_86 : decode cX11_seats 86 = .ok (.iload 4, 2) := by decide +kernel
theorem dX11_seats_88 : decode cX11_seats 88 = .ok (.iload_n 3, 1) := by decide +kernel
theorem dX11_seats_89 : decode cX11_seats 89 = .ok (.iconst 1, 1) := by decide +kernel
theorem dX11_seats_90 : decode cX11_seats 90 = .ok (.if_icmp .ne 7, 3) := by decide +kernel
theorem dX11_seats_93 : decode cX11_seats 93 = .ok (.iconst 1, 1) := by decide +kernel
theorem dX11_seats_94 : decode cX11_seats 94 = .ok (.goto 4, 3) := by decide +kernel
theorem dX11_seats_97 : decode cX11_seats 97 = .ok (.iconst 0, 1) := by decide +kernel
theorem dX11_seats_98 : decode cX11_seats 98 = .ok (.invokevirtual 308, 3) := by decide +kernel
theorem dX11_seats_101 : decode cX11_seats 101 = .ok (.iload 5, 2) := by decide +kernel
theorem dX11_seats_103 : decode cX11_seats 103 = .ok (.ireturn, 1) := by decide +kernel
theorem dX11_seen_0 : decode cX11_seen 0 = .ok (.aload_n 0, 1) := by decide +kernel
theorem dX11_seen_1 : decode cX11_seen 1 = .ok (.iload_n 1, 1) := by decide +kernel
theorem dX11_seen_2 : decode cX11_seen 2 = .ok (.invokevirtual 243, 3) := by decide +kernel
theorem dX11_seen_5 : decode cX11_seen 5 = .ok (.istore_n 2, 1) := by decide +kernel
theorem dX11_seen_6 : decode cX11_seen 6 = .ok (.iload_n 2, 1) := by decide +kernel
theorem dX11_seen_7 : decode cX11_seen 7 = .ok (.ifCond .eq 8, 3) := by decide +kernel
theorem dX11_seen_10 : decode cX11_seen 10 = .ok (.iload_n 2, 1) := by decide +kernel
theorem dX11_seen_11 : decode cX11_seen 11 = .ok (.i2l, 1) := by decide +kernel
theorem dX11_seen_12 : decode cX11_seen 12 = .ok (.goto 16, 3) := by decide +kernel
theorem dX11_seen_15 : decode cX11_seen 15 = .ok (.aload_n 0, 1) := by decide +kernel
theorem dX11_seen_16 : decode cX11_seen 16 = .ok (.getfield 64, 3) := by decide +kernel
theorem dX11_seen_19 : decode cX11_seen 19 = .ok (.aload_n 0, 1) := by decide +kernel
theorem dX11_seen_20 : decode cX11_seen 20 = .ok (.getfield 28, 3) := by decide +kernel
theorem dX11_seen_23 : decode cX11_seen 23 = .ok (.iload_n 1, 1) := by decide +kernel
theorem dX11_seen_24 : decode cX11_seen 24 = .ok (.aaload, 1) := by decide +kernel
theorem dX11_seen_25 : decode cX11_seen 25 = .ok (.invokevirtual 246, 3) := by decide +kernel
theorem dX11_seen_28 : decode cX11_seen 28 = .ok (.lreturn, 1) := by decide +kernel
theorem dX11_sees_0 : decode cX11_sees 0 = .ok (.aload_n 0, 1) := by decide +kernel
theorem dX11_sees_1 : decode cX11_sees 1 = .ok (.getfield 33, 3) := by decide +kernel
theorem dX11_sees_4 : decode cX11_sees 4 = .ok (.iload_n 1, 1) := by decide +kernel
theorem dX11_sees_5 : decode cX11_sees 5 = .ok (.invokevirtual 141, 3) := by decide +kernel
theorem dX11_sees_8 : decode cX11_sees 8 = .ok (.ifCond .ne 6, 3) := by decide +kernel
theorem dX11_sees_11 : decode cX11_sees 11 = .ok (.bipush (-2), 2) := by decide +kernel
theorem dX11_sees_13 : decode cX11_sees 13 = .ok (.ireturn, 1) := by decide +kernel
theorem dX11_sees_14 : decode cX11_sees 14 = .ok (.iconst 0, 1) := by decide +kernel
theorem dX11_sees_15 : decode cX11_sees 15 = .ok (.istore_n 2, 1) := by decide +kernel
theorem dX11_sees_16 : decode cX11_sees 16 = .ok (.iconst 0, 1) := by decide +kernel
theorem dX11_sees_17 : decode cX11_sees 17 = .ok (.istore_n 3, 1) := by decide +kernel
theorem dX11_sees_18 : decode cX11_sees 18 = .ok (.iload_n 3, 1) := by decide +kernel
theorem dX11_sees_19 : decode cX11_sees 19 = .ok (.bipush 60, 2) := by decide +kernel
theorem dX11_sees_21 : decode cX11_sees 21 = .ok (.if_icmp .ge 24, 3) := by decide +kernel
theorem dX11_sees_24 : decode cX11_sees 24 = .ok (.iload_n 2, 1) := by decide +kernel
theorem dX11_sees_25 : decode cX11_sees 25 = .ok (.aload_n 0, 1) := by decide +kernel
theorem dX11_sees_26 : decode cX11_sees 26 = .ok (.getfield 55, 3) := by decide +kernel
theorem dX11_sees_29 : decode cX11_sees 29 = .ok (.iload_n 1, 1) := by decide +kernel
theorem dX11_sees_30 : decode cX11_sees 30 = .ok (.iload_n 3, 1) := by decide +kernel
theorem dX11_sees_31 : decode cX11_sees 31 = .ok (.invokevirtual 170, 3) := by decide +kernel
theorem dX11_sees_34 : decode cX11_sees 34 = .ok (.invokestatic 198, 3) := by decide +kernel
theorem dX11_sees_37 : decode cX11_sees 37 = .ok (.ior, 1) := by decide +kernel
theorem dX11_sees_38 : decode cX11_sees 38 = .ok (.istore_n 2, 1) := by decide +kernel
theorem dX11_sees_39 : decode cX11_sees 39 = .ok (.iinc 3 1, 3) := by decide +kernel
theorem dX11_sees_42 : decode cX11_sees 42 = .ok (.goto (-24), 3) := by decide +kernel
theorem dX11_sees_45 : decode cX11_sees 45 = .ok (.iload_n 2, 1) := by decide +kernel
theorem dX11_sees_46 : decode cX11_sees 46 = .ok (.ireturn, 1) := by decide +kernel
theorem dX11_sits_0 : decode cX11_sits 0 = .ok (.aload_n 0, 1) := by decide +kernel
theorem dX11_sits_1 : decode cX11_sits 1 = .ok (.getfield 33, 3) := by decide +kernel
theorem dX11_sits_4 : decode cX11_sits 4 = .ok (.iload_n 1, 1) := by decide +kernel
theorem dX11_sits_5 : decode cX11_sits 5 = .ok (.iload_n 2, 1) := by decide +kernel
theorem dX11_sits_6 : decode cX11_sits 6 = .ok (.invokevirtual 156, 3) := by decide +kernel
theorem dX11_sits_9 : decode cX11_sits 9 = .ok (.ifCond .ne 6, 3) := by decide +kernel
theorem dX11_sits_12 : decode cX11_sits 12 = .ok (.bipush (-2), 2) := by decide +kernel
theorem dX11_sits_14 : decode cX11_sits 14 = .ok (.ireturn, 1) := by decide +kernel
theorem dX11_sits_15 : decode cX11_sits 15 = .ok (.aload_n 0, 1) := by decide +kernel
theorem dX11_sits_16 : decode cX11_sits 16 = .ok (.getfield 33, 3) := by decide +kernel
theorem dX11_sits_19 : decode cX11_sits 19 = .ok (.iload_n 1, 1) := by decide +kernel
theorem dX11_sits_20 : decode cX11_sits 20 = .ok (.iload_n 2, 1) := by decide +kernel
theorem dX11_sits_21 : decode cX11_sits 21 = .ok (.invokestatic 160, 3) := by decide +kernel
theorem dX11_sits_24 : decode cX11_sits 24 = .ok (.invokevirtual 164, 3) := by decide +kernel
theorem dX11_sits_27 : decode cX11_sits 27 = .ok (.ifCond .eq 7, 3) := by decide +kernel
theorem dX11_sits_30 : decode cX11_sits 30 = .ok (.iconst 1, 1) := by decide +kernel
theorem dX11_sits_31 : decode cX11_sits 31 = .ok (.goto 4, 3) := by decide +kernel
theorem dX11_sits_34 : decode cX11_sits 34 = .ok (.iconst 0, 1) := by decide +kernel
theorem dX11_sits_35 : decode cX11_sits 35 = .ok (.ireturn, 1) := by decide +kernel
theorem dX11_slip_0 : decode cX11_slip 0 = .ok (.aload_n 0, 1) := by decide +kernel
theorem dX11_slip_1 : decode cX11_slip 1 = .ok (.getfield 33, 3) := by decide +kernel
theorem dX11_slip_4 : decode cX11_slip 4 = .ok (.invokevirtual 179, 3) := by decide +kernel
theorem dX11_slip_7 : decode cX11_slip 7 = .ok (.ifCond .ne 6, 3) := by decide +kernel
theorem dX11_slip_10 : decode cX11_slip 10 = .ok (.bipush (-2), 2) := by decide +kernel
theorem dX11_slip_12 : decode cX11_slip 12 = .ok (.ireturn, 1) := by decide +kernel
theorem dX11_slip_13 : decode cX11_slip 13 = .ok (.iconst 0, 1) := by decide +kernel
theorem dX11_slip_14 : decode cX11_slip 14 = .ok (.istore_n 1, 1) := by decide +kernel
theorem dX11_slip_15 : decode cX11_slip 15 = .ok (.iload_n 1, 1) := by decide +kernel
theorem dX11_slip_16 : decode cX11_slip 16 = .ok (.bipush 60, 2) := by decide +kernel
theorem dX11_slip_18 : decode cX11_slip 18 = .ok (.if_icmp .ge 22, 3) := by decide +kernel
theorem dX11_slip_21 : decode cX11_slip 21 = .ok (.aload_n 0, 1) := by decide +kernel
theorem dX11_slip_22 : decode cX11_slip 22 = .ok (.getfield 55, 3) := by decide +kernel
theorem dX11_slip_25 : decode cX11_slip 25 = .ok (.iload_n 1, 1) := by decide +kernel
theorem dX11_slip_26 : decode cX11_slip 26 = .ok (.invokevirtual 188, 3) := by decide +kernel
theorem dX11_slip_29 : decode cX11_slip 29 = .ok (.ifCond .eq 5, 3) := by decide +kernel
theorem dX11_slip_32 : decode cX11_slip 32 = .ok (.iload_n 1, 1) := by decide +kernel
theorem dX11_slip_33 : decode cX11_slip 33 = .ok (.ireturn, 1) := by decide +kernel
theorem dX11_slip_34 : decode cX11_slip 34 = .ok (.iinc 1 1, 3) := by decide +kernel
theorem dX11_slip_37 : decode cX11_slip 37 = .ok (.goto (-22), 3) := by decide +kernel
theorem dX11_slip_40 : decode cX11_slip 40 = .ok (.iconst (-1), 1) := by decide +kernel
theorem dX11_slip_41 : decode cX11_slip 41 = .ok (.ireturn, 1) := by decide +kernel
theorem dX11_slotsWithRow_0 : decode cX11_slotsWithRow 0 = .ok (.iconst 0, 1) := by decide +kernel
theorem dX11_slotsWithRow_1 : decode cX11_slotsWithRow 1 = .ok (.istore_n 1, 1) := by decide +kernel
theorem dX11_slotsWithRow_2 : decode cX11_slotsWithRow 2 = .ok (.iconst 0, 1) := by decide +kernel
theorem dX11_slotsWithRow_3 : decode cX11_slotsWithRow 3 = .ok (.istore_n 2, 1) := by decide +kernel
theorem dX11_slotsWithRow_4 : decode cX11_slotsWithRow 4 = .ok (.iload_n 2, 1) := by decide +kernel
theorem dX11_slotsWithRow_5 : decode cX11_slotsWithRow 5 = .ok (.iconst 4, 1) := by decide +kernel
theorem dX11_slotsWithRow_6 : decode cX11_slotsWithRow 6 = .ok (.if_icmp .ge 24, 3) := by decide +kernel
theorem dX11_slotsWithRow_9 : decode cX11_slotsWithRow 9 = .ok (.aload_n 0, 1) := by decide +kernel
theorem dX11_slotsWithRow_10 : decode cX11_slotsWithRow 10 = .ok (.getfield 28, 3) := by decide +kernel
theorem dX11_slotsWithRow_13 : decode cX11_slotsWithRow 13 = .ok (.iload_n 2, 1) := by decide +kernel
theorem dX11_slotsWithRow_14 : decode cX11_slotsWithRow 14 = .ok (.aaload, 1) := by decide +kernel
theorem dX11_slotsWithRow_15 : decode cX11_slotsWithRow 15 = .ok (.invokevirtual 358, 3) := by decide +kernel
theorem dX11_slotsWithRow_18 : decode cX11_slotsWithRow 18 = .ok (.ifCond .eq 6, 3) := by decide +kernel
theorem dX11_slotsWithRow_21 : decode cX11_slotsWithRow 21 = .ok (.iinc 1 1, 3) := by decide +kernel
theorem dX11_slotsWithRow_24 : decode cX11_slotsWithRow 24 = .ok (.iinc 2 1, 3) := by decide +kernel
theorem dX11_slotsWithRow_27 : decode cX11_slotsWithRow 27 = .ok (.goto (-23), 3) := by decide +kernel
theorem dX11_slotsWithRow_30 : decode cX11_slotsWithRow 30 = .ok (.iload_n 1, 1) := by decide +kernel
theorem dX11_slotsWithRow_31 : decode cX11_slotsWithRow 31 = .ok (.ireturn, 1) := by decide +kernel
theorem dX11_soonest_0 : decode cX11_soonest 0 = .ok (.aload_n 0, 1) := by decide +kernel
theorem dX11_soonest_1 : decode cX11_soonest 1 = .ok (.getfield 33, 3) := by decide +kernel
theorem dX11_soonest_4 : decode cX11_soonest 4 = .ok (.invokevirtual 179, 3) := by decide +kernel
theorem dX11_soonest_7 : decode cX11_soonest 7 = .ok (.ifCond .eq 10, 3) := by decide +kernel
theorem dX11_soonest_10 : decode cX11_soonest 10 = .ok (.iload_n 1, 1) := by decide +kernel
theorem dX11_soonest_11 : decode cX11_soonest 11 = .ok (.invokestatic 167, 3) := by decide +kernel
theorem dX11_soonest_14 : decode cX11_soonest 14 = .ok (.ifCond .ne 6, 3) := by decide +kernel
theorem dX11_soonest_17 : decode cX11_soonest 17 = .ok (.bipush (-2), 2) := by decide +kernel
theorem dX11_soonest_19 : decode cX11_soonest 19 = .ok (.ireturn, 1) := by decide +kernel
theorem dX11_soonest_20 : decode cX11_soonest 20 = .ok (.aload_n 0, 1) := by decide +kernel
theorem dX11_soonest_21 : decode cX11_soonest 21 = .ok (.getfield 78, 3) := by decide +kernel
theorem dX11_soonest_24 : decode cX11_soonest 24 = .ok (.iload_n 1, 1) := by decide +kernel
theorem dX11_soonest_25 : decode cX11_soonest 25 = .ok (.bipush 20, 2) := by decide +kernel
theorem dX11_soonest_27 : decode cX11_soonest 27 = .ok (.invokevirtual 223, 3) := by decide +kernel
theorem dX11_soonest_30 : decode cX11_soonest 30 = .ok (.ireturn, 1) := by decide +kernel
theorem dX11_spotBit_0 : decode cX11_spotBit 0 = .ok (.lconst 1, 1) := by decide +kernel
theorem dX11_spotBit_1 : decode cX11_spotBit 1 = .ok (.iload_n 0, 1) := by decide +kernel
theorem dX11_spotBit_2 : decode cX11_spotBit 2 = .ok (.lshl, 1) := by decide +kernel
theorem dX11_spotBit_3 : decode cX11_spotBit 3 = .ok (.lreturn, 1) := by decide +kernel
theorem dX11_spotOf_0 : decode cX11_spotOf 0 = .ok (.iload_n 0, 1) := by decide +kernel
theorem dX11_spotOf_1 : decode cX11_spotOf 1 = .ok (.bipush 6, 2) := by decide +kernel
theorem dX11_spotOf_3 : decode cX11_spotOf 3 = .ok (.imul, 1) := by decide +kernel
theorem dX11_spotOf_4 : decode cX11_spotOf 4 = .ok (.iload_n 1, 1) := by decide +kernel
theorem dX11_spotOf_5 : decode cX11_spotOf 5 = .ok (.iadd, 1) := by decide +kernel
theorem dX11_spotOf_6 : decode cX11_spotOf 6 = .ok (.ireturn, 1) := by decide +kernel
theorem dX11_stand_0 : decode cX11_stand 0 = .ok (.aload_n 0, 1) := by decide +kernel
theorem dX11_stand_1 : decode cX11_stand 1 = .ok (.getfield 33, 3) := by decide +kernel
theorem dX11_stand_4 : decode cX11_stand 4 = .ok (.invokevirtual 179, 3) := by decide +kernel
theorem dX11_stand_7 : decode cX11_stand 7 = .ok (.ifCond .eq 13, 3) := by decide +kernel
theorem dX11_stand_10 : decode cX11_stand 10 = .ok (.iload_n 1, 1) := by decide +kernel
theorem dX11_stand_11 : decode cX11_stand 11 = .ok (.ifCond .lt 9, 3) := by decide +kernel
theorem dX11_stand_14 : decode cX11_stand 14 = .ok (.iload_n 1, 1) := by decide +kernel
theorem dX11_stand_15 : decode cX11_stand 15 = .ok (.bipush 7, 2) := by decide +kernel
theorem dX11_stand_17 : decode cX11_stand 17 = .ok (.if_icmp .le 6, 3) := by decide +kernel
theorem dX11_stand_20 : decode cX11_stand 20 = .ok (.bipush (-2), 2) := by decide +kernel
theorem dX11_stand_22 : decode cX11_stand 22 = .ok (.ireturn, 1) := by decide +kernel
theorem dX11_stand_23 : decode cX11_stand 23 = .ok (.aload_n 0, 1) := by decide +kernel
theorem dX11_stand_24 : decode cX11_stand 24 = .ok (.getfield 85, 3) := by decide +kernel
theorem dX11_stand_27 : decode cX11_stand 27 = .ok (.aload_n 0, 1) := by decide +kernel
theorem dX11_stand_28 : decode cX11_stand 28 = .ok (.getfield 33, 3) := by decide +kernel
theorem dX11_stand_31 : decode cX11_stand 31 = .ok (.iload_n 1, 1) := by decide +kernel
theorem dX11_stand_32 : decode cX11_stand 32 = .ok (.invokevirtual 229, 3) := by decide +kernel
theorem dX11_stand_35 : decode cX11_stand 35 = .ok (.ireturn, 1) := by decide +kernel
theorem dX11_stands_0 : decode cX11_stands 0 = .ok (.aload_n 0, 1) := by decide +kernel
theorem dX11_stands_1 : decode cX11_stands 1 = .ok (.getfield 33, 3) := by decide +kernel
theorem dX11_stands_4 : decode cX11_stands 4 = .ok (.invokevirtual 179, 3) := by decide +kernel
theorem dX11_stands_7 : decode cX11_stands 7 = .ok (.ifCond .eq 13, 3) := by decide +kernel
theorem dX11_stands_10 : decode cX11_stands 10 = .ok (.iload_n 1, 1) := by decide +kernel
theorem dX11_stands_11 : decode cX11_stands 11 = .ok (.ifCond .lt 9, 3) := by decide +kernel
theorem dX11_stands_14 : decode cX11_stands 14 = .ok (.iload_n 1, 1) := by decide +kernel
theorem dX11_stands_15 : decode cX11_stands 15 = .ok (.bipush 7, 2) := by decide +kernel
theorem dX11_stands_17 : decode cX11_stands 17 = .ok (.if_icmp .le 6, 3) := by decide +kernel
theorem dX11_stands_20 : decode cX11_stands 20 = .ok (.bipush (-2), 2) := by decide +kernel
theorem dX11_stands_22 : decode cX11_stands 22 = .ok (.ireturn, 1) := by decide +kernel
theorem dX11_stands_23 : decode cX11_stands 23 = .ok (.aload_n 0, 1) := by decide +kernel
theorem dX11_stands_24 : decode cX11_stands 24 = .ok (.getfield 85, 3) := by decide +kernel
theorem dX11_stands_27 : decode cX11_stands 27 = .ok (.aload_n 0, 1) := by decide +kernel
theorem dX11_stands_28 : decode cX11_stands 28 = .ok (.getfield 33, 3) := by decide +kernel
theorem dX11_stands_31 : decode cX11_stands 31 = .ok (.iload_n 1, 1) := by decide +kernel
theorem dX11_stands_32 : decode cX11_stands 32 = .ok (.invokevirtual 229, 3) := by decide +kernel
theorem dX11_stands_35 : decode cX11_stands 35 = .ok (.istore_n 2, 1) := by decide +kernel
theorem dX11_stands_36 : decode cX11_stands 36 = .ok (.iload_n 2, 1) := by decide +kernel
theorem dX11_stands_37 : decode cX11_stands 37 = .ok (.iconst (-1), 1) := by decide +kernel
theorem dX11_stands_38 : decode cX11_stands 38 = .ok (.if_icmp .ne 7, 3) := by decide +kernel
theorem dX11_stands_41 : decode cX11_stands 41 = .ok (.iconst (-1), 1) := by decide +kernel
theorem dX11_stands_42 : decode cX11_stands 42 = .ok (.goto 16, 3) := by decide +kernel
theorem dX11_stands_45 : decode cX11_stands 45 = .ok (.aload_n 0, 1) := by decide +kernel
theorem dX11_stands_46 : decode cX11_stands 46 = .ok (.getfield 85, 3) := by decide +kernel
theorem dX11_stands_49 : decode cX11_stands 49 = .ok (.aload_n 0, 1) := by decide +kernel
theorem dX11_stands_50 : decode cX11_stands 50 = .ok (.getfield 33, 3) := by decide +kernel
theorem dX11_stands_53 : decode cX11_stands 53 = .ok (.iload_n 1, 1) := by decide +kernel
theorem dX11_stands_54 : decode cX11_stands 54 = .ok (.iload_n 2, 1) := by decide +kernel
theorem dX11_stands_55 : decode cX11_stands 55 = .ok (.invokevirtual 233, 3) := by decide +kernel
theorem dX11_stands_58 : decode cX11_stands 58 = .ok (.ireturn, 1) := by decide +kernel
theorem dX11_sure_0 : decode cX11_sure 0 = .ok (.aload_n 0, 1) := by decide +kernel
theorem dX11_sure_1 : decode cX11_sure 1 = .ok (.getfield 33, 3) := by decide +kernel
theorem dX11_sure_4 : decode cX11_sure 4 = .ok (.iload_n 2, 1) := by decide +kernel
theorem dX11_sure_5 : decode cX11_sure 5 = .ok (.invokevirtual 141, 3) := by decide +kernel
theorem dX11_sure_8 : decode cX11_sure 8 = .ok (.ifCond .ne 6, 3) := by decide +kernel
theorem dX11_sure_11 : decode cX11_sure 11 = .ok (.bipush (-2), 2) := by decide +kernel
theorem dX11_sure_13 : decode cX11_sure 13 = .ok (.ireturn, 1) := by decide +kernel
theorem dX11_sure_14 : decode cX11_sure 14 = .ok (.aload_n 0, 1) := by decide +kernel
theorem dX11_sure_15 : decode cX11_sure 15 = .ok (.iload_n 1, 1) := by decide +kernel
theorem dX11_sure_16 : decode cX11_sure 16 = .ok (.invokevirtual 257, 3) := by decide +kernel
theorem dX11_sure_19 : decode cX11_sure 19 = .ok (.istore_n 3, 1) := by decide +kernel
theorem dX11_sure_20 : decode cX11_sure 20 = .ok (.iload_n 3, 1) := by decide +kernel
theorem dX11_sure_21 : decode cX11_sure 21 = .ok (.ifCond .eq 7, 3) := by decide +kernel
theorem dX11_sure_24 : decode cX11_sure 24 = .ok (.iload_n 3, 1) := by decide +kernel
theorem dX11_sure_25 : decode cX11_sure 25 = .ok (.goto 24, 3) := by decide +kernel
theorem dX11_sure_28 : decode cX11_sure 28 = .ok (.aload_n 0, 1) := by decide +kernel
theorem dX11_sure_29 : decode cX11_sure 29 = .ok (.getfield 64, 3) := by decide +kernel
theorem dX11_sure_32 : decode cX11_sure 32 = .ok (.iload_n 2, 1) := by decide +kernel
theorem dX11_sure_33 : decode cX11_sure 33 = .ok (.aload_n 0, 1) := by decide +kernel
theorem dX11_sure_34 : decode cX11_sure 34 = .ok (.getfield 64, 3) := by decide +kernel
theorem dX11_sure_37 : decode cX11_sure 37 = .ok (.aload_n 0, 1) := by decide +kernel
theorem dX11_sure_38 : decode cX11_sure 38 = .ok (.getfield 28, 3) := by decide +kernel
theorem dX11_sure_41 : decode cX11_sure 41 = .ok (.iload_n 1, 1) := by decide +kernel
theorem dX11_sure_42 : decode cX11_sure 42 = .ok (.aaload, 1) := by decide +kernel
theorem dX11_sure_43 : decode cX11_sure 43 = .ok (.invokevirtual 260, 3) := by decide +kernel
theorem dX11_sure_46 : decode cX11_sure 46 = .ok (.invokevirtual 268, 3) := by decide +kernel
theorem dX11_sure_49 : decode cX11_sure 49 = .ok (.ireturn, 1) := by decide +kernel
theorem dX11_undo_0 : decode cX11_undo 0 = .ok (.aload_n 0, 1) := by decide +kernel
theorem dX11_undo_1 : decode cX11_undo 1 = .ok (.getfield 33, 3) := by decide +kernel
theorem dX11_undo_4 : decode cX11_undo 4 = .ok (.invokevirtual 179, 3) := by decide +kernel
theorem dX11_undo_7 : decode cX11_undo 7 = .ok (.ifCond .ne 6, 3) := by decide +kernel
theorem dX11_undo_10 : decode cX11_undo 10 = .ok (.bipush (-2), 2) := by decide +kernel
theorem dX11_undo_12 : decode cX11_undo 12 = .ok (.ireturn, 1) := by decide +kernel
theorem dX11_undo_13 : decode cX11_undo 13 = .ok (.aload_n 0, 1) := by decide +kernel
theorem dX11_undo_14 : decode cX11_undo 14 = .ok (.getfield 33, 3) := by decide +kernel
theorem dX11_undo_17 : decode cX11_undo 17 = .ok (.invokevirtual 312, 3) := by decide +kernel
theorem dX11_undo_20 : decode cX11_undo 20 = .ok (.ifCond .ne 6, 3) := by decide +kernel
theorem dX11_undo_23 : decode cX11_undo 23 = .ok (.bipush (-5), 2) := by decide +kernel
theorem dX11_undo_25 : decode cX11_undo 25 = .ok (.ireturn, 1) := by decide +kernel
theorem dX11_undo_26 : decode cX11_undo 26 = .ok (.aload_n 0, 1) := by decide +kernel
theorem dX11_undo_27 : decode cX11_undo 27 = .ok (.getfield 55, 3) := by decide +kernel
theorem dX11_undo_30 : decode cX11_undo 30 = .ok (.aload_n 0, 1) := by decide +kernel
theorem dX11_undo_31 : decode cX11_undo 31 = .ok (.getfield 33, 3) := by decide +kernel
theorem dX11_undo_34 : decode cX11_undo 34 = .ok (.invokevirtual 112, 3) := by decide +kernel
theorem dX11_undo_37 : decode cX11_undo 37 = .ok (.aload_n 0, 1) := by decide +kernel
theorem dX11_undo_38 : decode cX11_undo 38 = .ok (.getfield 33, 3) := by decide +kernel
theorem dX11_undo_41 : decode cX11_undo 41 = .ok (.getfield 296, 3) := by decide +kernel
theorem dX11_undo_44 : decode cX11_undo 44 = .ok (.getfield 315, 3) := by decide +kernel
theorem dX11_undo_47 : decode cX11_undo 47 = .ok (.ireturn, 1) := by decide +kernel
theorem dX11_who_0 : decode cX11_who 0 = .ok (.aload_n 0, 1) := by decide +kernel
theorem dX11_who_1 : decode cX11_who 1 = .ok (.getfield 33, 3) := by decide +kernel
theorem dX11_who_4 : decode cX11_who 4 = .ok (.iload_n 1, 1) := by decide +kernel
theorem dX11_who_5 : decode cX11_who 5 = .ok (.invokevirtual 124, 3) := by decide +kernel
theorem dX11_who_8 : decode cX11_who 8 = .ok (.ifCond .eq 10, 3) := by decide +kernel
theorem dX11_who_11 : decode cX11_who 11 = .ok (.iload_n 2, 1) := by decide +kernel
theorem dX11_who_12 : decode cX11_who 12 = .ok (.invokestatic 167, 3) := by decide +kernel
theorem dX11_who_15 : decode cX11_who 15 = .ok (.ifCond .ne 6, 3) := by decide +kernel
theorem dX11_who_18 : decode cX11_who 18 = .ok (.bipush (-2), 2) := by decide +kernel
theorem dX11_who_20 : decode cX11_who 20 = .ok (.ireturn, 1) := by decide +kernel
theorem dX11_who_21 : decode cX11_who 21 = .ok (.aload_n 0, 1) := by decide +kernel
theorem dX11_who_22 : decode cX11_who 22 = .ok (.getfield 55, 3) := by decide +kernel
theorem dX11_who_25 : decode cX11_who 25 = .ok (.iload_n 1, 1) := by decide +kernel
theorem dX11_who_26 : decode cX11_who 26 = .ok (.iload_n 2, 1) := by decide +kernel
theorem dX11_who_27 : decode cX11_who 27 = .ok (.invokevirtual 173, 3) := by decide +kernel
theorem dX11_who_30 : decode cX11_who 30 = .ok (.ireturn, 1) := by decide +kernel
theorem dX11_wider_0 : decode cX11_wider 0 = .ok (.aload_n 0, 1) := by decide +kernel
theorem dX11_wider_1 : decode cX11_wider 1 = .ok (.getfield 33, 3) := by decide +kernel
theorem dX11_wider_4 : decode cX11_wider 4 = .ok (.iload_n 3, 1) := by decide +kernel
theorem dX11_wider_5 : decode cX11_wider 5 = .ok (.invokevirtual 141, 3) := by decide +kernel
theorem dX11_wider_8 : decode cX11_wider 8 = .ok (.ifCond .eq 20, 3) := by decide +kernel
theorem dX11_wider_11 : decode cX11_wider 11 = .ok (.iload_n 1, 1) := by decide +kernel
theorem dX11_wider_12 : decode cX11_wider 12 = .ok (.invokestatic 167, 3) := by decide +kernel
theorem dX11_wider_15 : decode cX11_wider 15 = .ok (.ifCond .eq 13, 3) := by decide +kernel
theorem dX11_wider_18 : decode cX11_wider 18 = .ok (.iload_n 2, 1) := by decide +kernel
theorem dX11_wider_19 : decode cX11_wider 19 = .ok (.ifCond .lt 9, 3) := by decide +kernel
theorem dX11_wider_22 : decode cX11_wider 22 = .ok (.iload_n 2, 1) := by decide +kernel
theorem dX11_wider_23 : decode cX11_wider 23 = .ok (.bipush 20, 2) := by decide +kernel
theorem dX11_wider_25 : decode cX11_wider 25 = .ok (.if_icmp .le 6, 3) := by decide +kernel
theorem dX11_wider_28 : decode cX11_wider 28 = .ok (.bipush (-2), 2) := by decide +kernel
theorem dX11_wider_30 : decode cX11_wider 30 = .ok (.ireturn, 1) := by decide +kernel
theorem dX11_wider_31 : decode cX11_wider 31 = .ok (.aload_n 0, 1) := by decide +kernel
theorem dX11_wider_32 : decode cX11_wider 32 = .ok (.getfield 78, 3) := by decide +kernel
theorem dX11_wider_35 : decode cX11_wider 35 = .ok (.iload_n 1, 1) := by decide +kernel
theorem dX11_wider_36 : decode cX11_wider 36 = .ok (.iload_n 2, 1) := by decide +kernel
theorem dX11_wider_37 : decode cX11_wider 37 = .ok (.iload_n 3, 1) := by decide +kernel
theorem dX11_wider_38 : decode cX11_wider 38 = .ok (.invokevirtual 219, 3) := by decide +kernel
theorem dX11_wider_41 : decode cX11_wider 41 = .ok (.aload_n 0, 1) := by decide +kernel
theorem dX11_wider_42 : decode cX11_wider 42 = .ok (.getfield 78, 3) := by decide +kernel
theorem dX11_wider_45 : decode cX11_wider 45 = .ok (.iload_n 1, 1) := by decide +kernel
theorem dX11_wider_46 : decode cX11_wider 46 = .ok (.iload_n 2, 1) := by decide +kernel
theorem dX11_wider_47 : decode cX11_wider 47 = .ok (.iconst (-1), 1) := by decide +kernel
theorem dX11_wider_48 : decode cX11_wider 48 = .ok (.invokevirtual 219, 3) := by decide +kernel
theorem dX11_wider_51 : decode cX11_wider 51 = .ok (.isub, 1) := by decide +kernel
theorem dX11_wider_52 : decode cX11_wider 52 = .ok (.ireturn, 1) := by decide +kernel
theorem dX11_wind_0 : decode cX11_wind 0 = .ok (.aload_n 0, 1) := by decide +kernel
theorem dX11_wind_1 : decode cX11_wind 1 = .ok (.getfield 33, 3) := by decide +kernel
theorem dX11_wind_4 : decode cX11_wind 4 = .ok (.invokevirtual 179, 3) := by decide +kernel
theorem dX11_wind_7 : decode cX11_wind 7 = .ok (.ifCond .eq 10, 3) := by decide +kernel
theorem dX11_wind_10 : decode cX11_wind 10 = .ok (.iload_n 1, 1) := by decide +kernel
theorem dX11_wind_11 : decode cX11_wind 11 = .ok (.invokestatic 167, 3) := by decide +kernel
theorem dX11_wind_14 : decode cX11_wind 14 = .ok (.ifCond .ne 6, 3) := by decide +kernel
theorem dX11_wind_17 : decode cX11_wind 17 = .ok (.bipush (-2), 2) := by decide +kernel
theorem dX11_wind_19 : decode cX11_wind 19 = .ok (.ireturn, 1) := by decide +kernel
theorem dX11_wind_20 : decode cX11_wind 20 = .ok (.aload_n 0, 1) := by decide +kernel
theorem dX11_wind_21 : decode cX11_wind 21 = .ok (.getfield 55, 3) := by decide +kernel
theorem dX11_wind_24 : decode cX11_wind 24 = .ok (.iload_n 1, 1) := by decide +kernel
theorem dX11_wind_25 : decode cX11_wind 25 = .ok (.invokevirtual 240, 3) := by decide +kernel
theorem dX11_wind_28 : decode cX11_wind 28 = .ok (.ireturn, 1) := by decide +kernel
theorem dX11_worst_0 : decode cX11_worst 0 = .ok (.aload_n 0, 1) := by decide +kernel
theorem dX11_worst_1 : decode cX11_worst 1 = .ok (.getfield 33, 3) := by decide +kernel
theorem dX11_worst_4 : decode cX11_worst 4 = .ok (.invokevirtual 179, 3) := by decide +kernel
theorem dX11_worst_7 : decode cX11_worst 7 = .ok (.ifCond .eq 10, 3) := by decide +kernel
theorem dX11_worst_10 : decode cX11_worst 10 = .ok (.iload_n 1, 1) := by decide +kernel
theorem dX11_worst_11 : decode cX11_worst 11 = .ok (.invokestatic 167, 3) := by decide +kernel
theorem dX11_worst_14 : decode cX11_worst 14 = .ok (.ifCond .ne 6, 3) := by decide +kernel
theorem dX11_worst_17 : decode cX11_worst 17 = .ok (.bipush (-2), 2) := by decide +kernel
theorem dX11_worst_19 : decode cX11_worst 19 = .ok (.ireturn, 1) := by decide +kernel
theorem dX11_worst_20 : decode cX11_worst 20 = .ok (.aload_n 0, 1) := by decide +kernel
theorem dX11_worst_21 : decode cX11_worst 21 = .ok (.getfield 55, 3) := by decide +kernel
theorem dX11_worst_24 : decode cX11_worst 24 = .ok (.iload_n 1, 1) := by decide +kernel
theorem dX11_worst_25 : decode cX11_worst 25 = .ok (.invokevirtual 213, 3) := by decide +kernel
theorem dX11_worst_28 : decode cX11_worst 28 = .ok (.ireturn, 1) := by decide +kernel
theorem dX11_worth_0 : decode cX11_worth 0 = .ok (.iload_n 1, 1) := by decide +kernel
theorem dX11_worth_1 : decode cX11_worth 1 = .ok (.invokestatic 226, 3) := by decide +kernel
theorem dX11_worth_4 : decode cX11_worth 4 = .ok (.ifCond .eq 13, 3) := by decide +kernel
theorem dX11_worth_7 : decode cX11_worth 7 = .ok (.aload_n 0, 1) := by decide +kernel
theorem dX11_worth_8 : decode cX11_worth 8 = .ok (.getfield 33, 3) := by decide +kernel
theorem dX11_worth_11 : decode cX11_worth 11 = .ok (.getfield 275, 3) := by decide +kernel
theorem dX11_worth_14 : decode cX11_worth 14 = .ok (.ifCond .ne 6, 3) := by decide +kernel
theorem dX11_worth_17 : decode cX11_worth 17 = .ok (.bipush (-2), 2) := by decide +kernel
theorem dX11_worth_19 : decode cX11_worth 19 = .ok (.ireturn, 1) := by decide +kernel
theorem dX11_worth_20 : decode cX11_worth 20 = .ok (.aload_n 0, 1) := by decide +kernel
theorem dX11_worth_21 : decode cX11_worth 21 = .ok (.getfield 71, 3) := by decide +kernel
theorem dX11_worth_24 : decode cX11_worth 24 = .ok (.iload_n 1, 1) := by decide +kernel
theorem dX11_worth_25 : decode cX11_worth 25 = .ok (.invokevirtual 278, 3) := by decide +kernel
theorem dX11_worth_28 : decode cX11_worth 28 = .ok (.iconst 0, 1) := by decide +kernel
theorem dX11_worth_29 : decode cX11_worth 29 = .ok (.istore_n 2, 1) := by decide +kernel
theorem dX11_worth_30 : decode cX11_worth 30 = .ok (.iconst 0, 1) := by decide +kernel
theorem dX11_worth_31 : decode cX11_worth 31 = .ok (.istore_n 3, 1) := by decide +kernel
theorem dX11_worth_32 : decode cX11_worth 32 = .ok (.iload_n 3, 1) := by decide +kernel
theorem dX11_worth_33 : decode cX11_worth 33 = .ok (.bipush 36, 2) := by decide +kernel
theorem dX11_worth_35 : decode cX11_worth 35 = .ok (.if_icmp .ge 51, 3) := by decide +kernel
theorem dX11_worth_38 : decode cX11_worth 38 = .ok (.aload_n 0, 1) := by decide +kernel
theorem dX11_worth_39 : decode cX11_worth 39 = .ok (.getfield 33, 3) := by decide +kernel
theorem dX11_worth_42 : decode cX11_worth 42 = .ok (.iload_n 3, 1) := by decide +kernel
theorem dX11_worth_43 : decode cX11_worth 43 = .ok (.invokevirtual 164, 3) := by decide +kernel
theorem dX11_worth_46 : decode cX11_worth 46 = .ok (.ifCond .eq 34, 3) := by decide +kernel
theorem dX11_worth_49 : decode cX11_worth 49 = .ok (.iload_n 2, 1) := by decide +kernel
theorem dX11_worth_50 : decode cX11_worth 50 = .ok (.aload_n 0, 1) := by decide +kernel
theorem dX11_worth_51 : decode cX11_worth 51 = .ok (.getfield 71, 3) := by decide +kernel
theorem dX11_worth_54 : decode cX11_worth 54 = .ok (.iload_n 3, 1) := by decide +kernel
theorem dX11_worth_55 : decode cX11_worth 55 = .ok (.aload_n 0, 1) := by decide +kernel
theorem dX11_worth_56 : decode cX11_worth 56 = .ok (.getfield 71, 3) := by decide +kernel
theorem dX11_worth_59 : decode cX11_worth 59 = .ok (.iload_n 3, 1) := by decide +kernel
theorem dX11_worth_60 : decode cX11_worth 60 = .ok (.iload_n 1, 1) := by decide +kernel
theorem dX11_worth_61 : decode cX11_worth 61 = .ok (.invokevirtual 281, 3) := by decide +kernel
theorem dX11_worth_64 : decode cX11_worth 64 = .ok (.iload_n 1, 1) := by decide +kernel
theorem dX11_worth_65 : decode cX11_worth 65 = .ok (.invokevirtual 284, 3) := by decide +kernel
theorem dX11_worth_68 : decode cX11_worth 68 = .ok (.aload_n 0, 1) := by decide +kernel
theorem dX11_worth_69 : decode cX11_worth 69 = .ok (.getfield 71, 3) := by decide +kernel
theorem dX11_worth_72 : decode cX11_worth 72 = .ok (.iload_n 3, 1) := by decide +kernel
theorem dX11_worth_73 : decode cX11_worth 73 = .ok (.iload_n 1, 1) := by decide +kernel
theorem dX11_worth_74 : decode cX11_worth 74 = .ok (.invokevirtual 272, 3) := by decide +kernel
theorem dX11_worth_77 : decode cX11_worth 77 = .ok (.isub, 1) := by decide +kernel
theorem dX11_worth_78 : decode cX11_worth 78 = .ok (.iadd, 1) := by decide +kernel
theorem dX11_worth_79 : decode cX11_worth 79 = .ok (.istore_n 2, 1) := by decide +kernel
theorem dX11_worth_80 : decode cX11_worth 80 = .ok (.iinc 3 1, 3) := by decide +kernel
theorem dX11_worth_83 : decode cX11_worth 83 = .ok (.goto (-51), 3) := by decide +kernel
theorem dX11_worth_86 : decode cX11_worth 86 = .ok (.iload_n 2, 1) := by decide +kernel
theorem dX11_worth_87 : decode cX11_worth 87 = .ok (.ireturn, 1) := by decide +kernel
theorem dX11_write_0 : decode cX11_write 0 = .ok (.iload_n 1, 1) := by decide +kernel
theorem dX11_write_1 : decode cX11_write 1 = .ok (.invokestatic 351, 3) := by decide +kernel
theorem dX11_write_4 : decode cX11_write 4 = .ok (.ifCond .ne 6, 3) := by decide +kernel
theorem dX11_write_7 : decode cX11_write 7 = .ok (.bipush (-2), 2) := by decide +kernel
theorem dX11_write_9 : decode cX11_write 9 = .ok (.ireturn, 1) := by decide +kernel
theorem dX11_write_10 : decode cX11_write 10 = .ok (.aload_n 0, 1) := by decide +kernel
theorem dX11_write_11 : decode cX11_write 11 = .ok (.getfield 28, 3) := by decide +kernel
theorem dX11_write_14 : decode cX11_write 14 = .ok (.iload_n 1, 1) := by decide +kernel
theorem dX11_write_15 : decode cX11_write 15 = .ok (.aaload, 1) := by decide +kernel
theorem dX11_write_16 : decode cX11_write 16 = .ok (.astore 5, 2) := by decide +kernel
theorem dX11_write_18 : decode cX11_write 18 = .ok (.aload 5, 2) := by decide +kernel
theorem dX11_write_20 : decode cX11_write 20 = .ok (.invokevirtual 358, 3) := by decide +kernel
theorem dX11_write_23 : decode cX11_write 23 = .ok (.ifCond .ne 6, 3) := by decide +kernel
theorem dX11_write_26 : decode cX11_write 26 = .ok (.bipush (-6), 2) := by decide +kernel
theorem dX11_write_28 : decode cX11_write 28 = .ok (.ireturn, 1) := by decide +kernel
theorem dX11_write_29 : decode cX11_write 29 = .ok (.iload_n 2, 1) := by decide +kernel
theorem dX11_write_30 : decode cX11_write 30 = .ok (.ifCond .lt 12, 3) := by decide +kernel
theorem dX11_write_33 : decode cX11_write 33 = .ok (.iload_n 2, 1) := by decide +kernel
theorem dX11_write_34 : decode cX11_write 34 = .ok (.aload 5, 2) := by decide +kernel
theorem dX11_write_36 : decode cX11_write 36 = .ok (.getfield 361, 3) := by decide +kernel
theorem dX11_write_39 : decode cX11_write 39 = .ok (.if_icmp .lt 6, 3) := by decide +kernel
theorem dX11_write_42 : decode cX11_write 42 = .ok (.bipush (-7), 2) := by decide +kernel
theorem dX11_write_44 : decode cX11_write 44 = .ok (.ireturn, 1) := by decide +kernel
theorem dX11_write_45 : decode cX11_write 45 = .ok (.aload 5, 2) := by decide +kernel
theorem dX11_write_47 : decode cX11_write 47 = .ok (.iload_n 2, 1) := by decide +kernel
theorem dX11_write_48 : decode cX11_write 48 = .ok (.lload_n 3, 1) := by decide +kernel
theorem dX11_write_49 : decode cX11_write 49 = .ok (.invokevirtual 362, 3) := by decide +kernel
theorem dX11_write_52 : decode cX11_write 52 = .ok (.iconst 0, 1) := by decide +kernel
theorem dX11_write_53 : decode cX11_write 53 = .ok (.ireturn, 1) := by decide +kernel
theorem dX1_add_0 : decode cX1_add 0 = .ok (.aload_n 0, 1) := by decide +kernel
theorem dX1_add_1 : decode cX1_add 1 = .ok (.invokevirtual 28, 3) := by decide +kernel
theorem dX1_add_4 : decode cX1_add 4 = .ok (.ifCond .eq 4, 3) := by decide +kernel
theorem dX1_add_7 : decode cX1_add 7 = .ok (.return_, 1) := by decide +kernel
theorem dX1_add_8 : decode cX1_add 8 = .ok (.aload_n 0, 1) := by decide +kernel
theorem dX1_add_9 : decode cX1_add 9 = .ok (.getfield 9, 3) := by decide +kernel
theorem dX1_add_12 : decode cX1_add 12 = .ok (.aload_n 0, 1) := by decide +kernel
theorem dX1_add_13 : decode cX1_add 13 = .ok (.getfield 24, 3) := by decide +kernel
theorem dX1_add_16 : decode cX1_add 16 = .ok (.iload_n 1, 1) := by decide +kernel
theorem dX1_add_17 : decode cX1_add 17 = .ok (.iastore, 1) := by decide +kernel
theorem dX1_add_18 : decode cX1_add 18 = .ok (.aload_n 0, 1) := by decide +kernel
theorem dX1_add_19 : decode cX1_add 19 = .ok (.getfield 15, 3) := by decide +kernel
theorem dX1_add_22 : decode cX1_add 22 = .ok (.aload_n 0, 1) := by decide +kernel
theorem dX1_add_23 : decode cX1_add 23 = .ok (.getfield 24, 3) := by decide +kernel
theorem dX1_add_26 : decode cX1_add 26 = .ok (.iload_n 2, 1) := by decide +kernel
theorem dX1_add_27 : decode cX1_add 27 = .ok (.iastore, 1) := by decide +kernel
theorem dX1_add_28 : decode cX1_add 28 = .ok (.aload_n 0, 1) := by decide +kernel
theorem dX1_add_29 : decode cX1_add 29 = .ok (.getfield 18, 3) := by decide +kernel
theorem dX1_add_32 : decode cX1_add 32 = .ok (.aload_n 0, 1) := by decide +kernel
theorem dX1_add_33 : decode cX1_add 33 = .ok (.getfield 24, 3) := by decide +kernel
theorem dX1_add_36 : decode cX1_add 36 = .ok (.iload_n 3, 1) := by decide +kernel
theorem dX1_add_37 : decode cX1_add 37 = .ok (.iastore, 1) := by decide +kernel
theorem dX1_add_38 : decode cX1_add 38 = .ok (.aload_n 0, 1) := by decide +kernel
theorem dX1_add_39 : decode cX1_add 39 = .ok (.getfield 21, 3) := by decide +kernel
theorem dX1_add_42 : decode cX1_add 42 = .ok (.aload_n 0, 1) := by decide +kernel
theorem dX1_add_43 : decode cX1_add 43 = .ok (.getfield 24, 3) := by decide +kernel
theorem dX1_add_46 : decode cX1_add 46 = .ok (.iload 4, 2) := by decide +kernel
theorem dX1_add_48 : decode cX1_add 48 = .ok (.iastore, 1) := by decide +kernel
theorem dX1_add_49 : decode cX1_add 49 = .ok (.aload_n 0, 1) := by decide +kernel
theorem dX1_add_50 : decode cX1_add 50 = .ok (.dup, 1) := by decide +kernel
theorem dX1_add_51 : decode cX1_add 51 = .ok (.getfield 24, 3) := by decide +kernel
theorem dX1_add_54 : decode cX1_add 54 = .ok (.iconst 1, 1) := by decide +kernel
theorem dX1_add_55 : decode cX1_add 55 = .ok (.iadd, 1) := by decide +kernel
theorem dX1_add_56 : decode cX1_add 56 = .ok (.putfield 24, 3) := by decide +kernel
theorem dX1_add_59 : decode cX1_add 59 = .ok (.return_, 1) := by decide +kernel
theorem dX1_init_0 : decode cX1_init 0 = .ok (.aload_n 0, 1) := by decide +kernel
theorem dX1_init_1 : decode cX1_init 1 = .ok (.invokespecial 3, 3) := by decide +kernel
theorem dX1_init_4 : decode cX1_init 4 = .ok (.aload_n 0, 1) := by decide +kernel
theorem dX1_init_5 : decode cX1_init 5 = .ok (.bipush 40, 2) := by decide +kernel
theorem dX1_init_7 : decode cX1_init 7 = .ok (.newarray .int, 2) := by decide +kernel
theorem dX1_init_9 : decode cX1_init 9 = .ok (.putfield 9, 3) := by decide +kernel
theorem dX1_init_12 : decode cX1_init 12 = .ok (.aload_n 0, 1) := by decide +kernel
theorem dX1_init_13 : decode cX1_init 13 = .ok (.bipush 40, 2) := by decide +kernel
theorem dX1_init_15 : decode cX1_init 15 = .ok (.newarray .int, 2) := by decide +kernel
theorem dX1_init_17 : decode cX1_init 17 = .ok (.putfield 15, 3) := by decide +kernel
theorem dX1_init_20 : decode cX1_init 20 = .ok (.aload_n 0, 1) := by decide +kernel
theorem dX1_init_21 : decode cX1_init 21 = .ok (.bipush 40, 2) := by decide +kernel
theorem dX1_init_23 : decode cX1_init 23 = .ok (.newarray .int, 2) := by decide +kernel
theorem dX1_init_25 : decode cX1_init 25 = .ok (.putfield 18, 3) := by decide +kernel
theorem dX1_init_28 : decode cX1_init 28 = .ok (.aload_n 0, 1) := by decide +kernel
theorem dX1_init_29 : decode cX1_init 29 = .ok (.bipush 40, 2) := by decide +kernel
theorem dX1_init_31 : decode cX1_init 31 = .ok (.newarray .int, 2) := by decide +kernel
theorem dX1_init_33 : decode cX1_init 33 = .ok (.putfield 21, 3) := by decide +kernel
theorem dX1_init_36 : decode cX1_init 36 = .ok (.return_, 1) := by decide +kernel
theorem dX1_isFull_0 : decode cX1_isFull 0 = .ok (.aload_n 0, 1) := by decide +kernel
theorem dX1_isFull_1 : decode cX1_isFull 1 = .ok (.getfield 24, 3) := by decide +kernel
theorem dX1_isFull_4 : decode cX1_isFull 4 = .ok (.bipush 40, 2) := by decide +kernel
theorem dX1_isFull_6 : decode cX1_isFull 6 = .ok (.if_icmp .lt 7, 3) := by decide +kernel
theorem dX1_isFull_9 : decode cX1_isFull 9 = .ok (.iconst 1, 1) := by decide +kernel
theorem dX1_isFull_10 : decode cX1_isFull 10 = .ok (.goto 4, 3) := by decide +kernel
theorem dX1_isFull_13 : decode cX1_isFull 13 = .ok (.iconst 0, 1) := by decide +kernel
theorem dX1_isFull_14 : decode cX1_isFull 14 = .ok (.ireturn, 1) := by decide +kernel
theorem dX1_keep_0 : decode cX1_keep 0 = .ok (.aload_n 0, 1) := by decide +kernel
theorem dX1_keep_1 : decode cX1_keep 1 = .ok (.aload_n 1, 1) := by decide +kernel
theorem dX1_keep_2 : decode cX1_keep 2 = .ok (.getfield 24, 3) := by decide +kernel
theorem dX1_keep_5 : decode cX1_keep 5 = .ok (.putfield 24, 3) := by decide +kernel
theorem dX1_keep_8 : decode cX1_keep 8 = .ok (.aload_n 1, 1) := by decide +kernel
theorem dX1_keep_9 : decode cX1_keep 9 = .ok (.getfield 9, 3) := by decide +kernel
theorem dX1_keep_12 : decode cX1_keep 12 = .ok (.iconst 0, 1) := by decide +kernel
theorem dX1_keep_13 : decode cX1_keep 13 = .ok (.aload_n 0, 1) := by decide +kernel
theorem dX1_keep_14 : decode cX1_keep 14 = .ok (.getfield 9, 3) := by decide +kernel
theorem dX1_keep_17 : decode cX1_keep 17 = .ok (.iconst 0, 1) := by decide +kernel
theorem dX1_keep_18 : decode cX1_keep 18 = .ok (.bipush 40, 2) := by decide +kernel
theorem dX1_keep_20 : decode cX1_keep 20 = .ok (.invokestatic 32, 3) := by decide +kernel
theorem dX1_keep_23 : decode cX1_keep 23 = .ok (.aload_n 1, 1) := by decide +kernel
theorem dX1_keep_24 : decode cX1_keep 24 = .ok (.getfield 15, 3) := by decide +kernel
theorem dX1_keep_27 : decode cX1_keep 27 = .ok (.iconst 0, 1) := by decide +kernel
theorem dX1_keep_28 : decode cX1_keep 28 = .ok (.aload_n 0, 1) := by decide +kernel
theorem dX1_keep_29 : decode cX1_keep 29 = .ok (.getfield 15, 3) := by decide +kernel
theorem dX1_keep_32 : decode cX1_keep 32 = .ok (.iconst 0, 1) := by decide +kernel
theorem dX1_keep_33 : decode cX1_keep 33 = .ok (.bipush 40, 2) := by decide +kernel
theorem dX1_keep_35 : decode cX1_keep 35 = .ok (.invokestatic 32, 3) := by decide +kernel
theorem dX1_keep_38 : decode cX1_keep 38 = .ok (.aload_n 1, 1) := by decide +kernel
theorem dX1_keep_39 : decode cX1_keep 39 = .ok (.getfield 18, 3) := by decide +kernel
theorem dX1_keep_42 : decode cX1_keep 42 = .ok (.iconst 0, 1) := by decide +kernel
theorem dX1_keep_43 : decode cX1_keep 43 = .ok (.aload_n 0, 1) := by decide +kernel
theorem dX1_keep_44 : decode cX1_keep 44 = .ok (.getfield 18, 3) := by decide +kernel
theorem dX1_keep_47 : decode cX1_keep 47 = .ok (.iconst 0, 1) := by decide +kernel
theorem dX1_keep_48 : decode cX1_keep 48 = .ok (.bipush 40, 2) := by decide +kernel
theorem dX1_keep_50 : decode cX1_keep 50 = .ok (.invokestatic 32, 3) := by decide +kernel
theorem dX1_keep_53 : decode cX1_keep 53 = .ok (.aload_n 1, 1) := by decide +kernel
theorem dX1_keep_54 : decode cX1_keep 54 = .ok (.getfield 21, 3) := by decide +kernel
theorem dX1_keep_57 : decode cX1_keep 57 = .ok (.iconst 0, 1) := by decide +kernel
theorem dX1_keep_58 : decode cX1_keep 58 = .ok (.aload_n 0, 1) := by decide +kernel
theorem dX1_keep_59 : decode cX1_keep 59 = .ok (.getfield 21, 3) := by decide +kernel
theorem dX1_keep_62 : decode cX1_keep 62 = .ok (.iconst 0, 1) := by decide +kernel
theorem dX1_keep_63 : decode cX1_keep 63 = .ok (.bipush 40, 2) := by decide +kernel
theorem dX1_keep_65 : decode cX1_keep 65 = .ok (.invokestatic 32, 3) := by decide +kernel
theorem dX1_keep_68 : decode cX1_keep 68 = .ok (.return_, 1) := by decide +kernel
theorem dX2_actsFell_0 : decode cX2_actsFell 0 = .ok (.ldc2_w 51, 3) := by decide +kernel
theorem dX2_actsFell_3 : decode cX2_actsFell 3 = .ok (.lstore_n 2, 1) := by decide +kernel
theorem dX2_actsFell_4 : decode cX2_actsFell 4 = .ok (.iconst 0, 1) := by decide +kernel
theorem dX2_actsFell_5 : decode cX2_actsFell 5 = .ok (.istore 4, 2) := by decide +kernel
theorem dX2_actsFell_7 : decode cX2_actsFell 7 = .ok (.iload 4, 2) := by decide +kernel
theorem dX2_actsFell_9 : decode cX2_actsFell 9 = .ok (.bipush 60, 2) := by decide +kernel
theorem dX2_actsFell_11 : decode cX2_actsFell 11 = .ok (.if_icmp .ge 81, 3) := by decide +kernel
theorem dX2_actsFell_14 : decode cX2_actsFell 14 = .ok (.iconst 0, 1) := by decide +kernel
theorem dX2_actsFell_15 : decode cX2_actsFell 15 = .ok (.istore 5, 2) := by decide +kernel
theorem dX2_actsFell_17 : decode cX2_actsFell 17 = .ok (.iload 5, 2) := by decide +kernel
theorem dX2_actsFell_19 : decode cX2_actsFell 19 = .ok (.iconst 2, 1) := by decide +kernel
theorem dX2_actsFell_20 : decode cX2_actsFell 20 = .ok (.iadd, 1) := by decide +kernel
theorem dX2_actsFell_21 : decode cX2_actsFell 21 = .ok (.aload_n 1, 1) := by decide +kernel
theorem dX2_actsFell_22 : decode cX2_actsFell 22 = .ok (.getfield 19, 3) := by decide +kernel
theorem dX2_actsFell_25 : decode cX2_actsFell 25 = .ok (.if_icmp .ge 61, 3) := by decide +kernel
theorem dX2_actsFell_28 : decode cX2_actsFell 28 = .ok (.aload_n 1, 1) := by decide +kernel
theorem dX2_actsFell_29 : decode cX2_actsFell 29 = .ok (.iload 5, 2) := by decide +kernel
theorem dX2_actsFell_31 : decode cX2_actsFell 31 = .ok (.invokevirtual 31, 3) := by decide +kernel
theorem dX2_actsFell_34 : decode cX2_actsFell 34 = .ok (.aload_n 1, 1) := by decide +kernel
theorem dX2_actsFell_35 : decode cX2_actsFell 35 = .ok (.iload 5, 2) := by decide +kernel
theorem dX2_actsFell_37 : decode cX2_actsFell 37 = .ok (.iconst 1, 1) := by decide +kernel
theorem dX2_actsFell_38 : decode cX2_actsFell 38 = .ok (.iadd, 1) := by decide +kernel
theorem dX2_actsFell_39 : decode cX2_actsFell 39 = .ok (.invokevirtual 31, 3) := by decide +kernel
theorem dX2_actsFell_42 : decode cX2_actsFell 42 = .ok (.invokestatic 59, 3) := by decide +kernel
theorem dX2_actsFell_45 : decode cX2_actsFell 45 = .ok (.istore 6, 2) := by decide +kernel
theorem dX2_actsFell_47 : decode cX2_actsFell 47 = .ok (.aload_n 0, 1) := by decide +kernel
theorem dX2_actsFell_48 : decode cX2_actsFell 48 = .ok (.getfield 15, 3) := by decide +kernel
theorem dX2_actsFell_51 : decode cX2_actsFell 51 = .ok (.iload 6, 2) := by decide +kernel
theorem dX2_actsFell_53 : decode cX2_actsFell 53 = .ok (.iload 4, 2) := by decide +kernel
theorem dX2_actsFell_55 : decode cX2_actsFell 55 = .ok (.invokevirtual 62, 3) := by decide +kernel
theorem dX2_actsFell_58 : decode cX2_actsFell 58 = .ok (.aload_n 1, 1) := by decide +kernel
theorem dX2_actsFell_59 : decode cX2_actsFell 59 = .ok (.iload 5, 2) := by decide +kernel
theorem dX2_actsFell_61 : decode cX2_actsFell 61 = .ok (.iconst 2, 1) := by decide +kernel
theorem dX2_actsFell_62 : decode cX2_actsFell 62 = .ok (.iadd, 1) := by decide +kernel
theorem dX2_actsFell_63 : decode cX2_actsFell 63 = .ok (.invokevirtual 31, 3) := by decide +kernel
theorem dX2_actsFell_66 : decode cX2_actsFell 66 = .ok (.if_icmp .eq 14, 3) := by decide +kernel
theorem dX2_actsFell_69 : decode cX2_actsFell 69 = .ok (.lload_n 2, 1) := by decide +kernel
theorem dX2_actsFell_70 : decode cX2_actsFell 70 = .ok (.lconst 1, 1) := by decide +kernel
theorem dX2_actsFell_71 : decode cX2_actsFell 71 = .ok (.iload 4, 2) := by decide +kernel
theorem dX2_actsFell_73 : decode cX2_actsFell 73 = .ok (.lshl, 1) := by decide +kernel
theorem dX2_actsFell_74 : decode cX2_actsFell 74 = .ok (.ldc2_w 57, 3) := by decide +kernel
theorem dX2_actsFell_77 : decode cX2_actsFell 77 = .ok (.lxor, 1) := by decide +kernel
theorem dX2_actsFell_78 : decode cX2_actsFell 78 = .ok (.land, 1) := by decide +kernel
theorem dX2_actsFell_79 : decode cX2_actsFell 79 = .ok (.lstore_n 2, 1) := by decide +kernel
theorem dX2_actsFell_80 : decode cX2_actsFell 80 = .ok (.iinc 5 3, 3) := by decide +kernel
theorem dX2_actsFell_83 : decode cX2_actsFell 83 = .ok (.goto (-66), 3) := by decide +kernel
theorem dX2_actsFell_86 : decode cX2_actsFell 86 = .ok (.iinc 4 1, 3) := by decide +kernel
theorem dX2_actsFell_89 : decode cX2_actsFell 89 = .ok (.goto (-82), 3) := by decide +kernel
theorem dX2_actsFell_92 : decode cX2_actsFell 92 = .ok (.lload_n 2, 1) := by decide +kernel
theorem dX2_actsFell_93 : decode cX2_actsFell 93 = .ok (.lreturn, 1) := by decide +kernel
theorem dX2_actsSeen_0 : decode cX2_actsSeen 0 = .ok (.ldc2_w 51, 3) := by decide +kernel
theorem dX2_actsSeen_3 : decode cX2_actsSeen 3 = .ok (.lstore_n 2, 1) := by decide +kernel
theorem dX2_actsSeen_4 : decode cX2_actsSeen 4 = .ok (.iconst 0, 1) := by decide +kernel
theorem dX2_actsSeen_5 : decode cX2_actsSeen 5 = .ok (.istore 4, 2) := by decide +kernel
theorem dX2_actsSeen_7 : decode cX2_actsSeen 7 = .ok (.iload 4, 2) := by decide +kernel
theorem dX2_actsSeen_9 : decode cX2_actsSeen 9 = .ok (.bipush 60, 2) := by decide +kernel
theorem dX2_actsSeen_11 : decode cX2_actsSeen 11 = .ok (.if_icmp .ge 66, 3) := by decide +kernel
theorem dX2_actsSeen_14 : decode cX2_actsSeen 14 = .ok (.iconst 0, 1) := by decide +kernel
theorem dX2_actsSeen_15 : decode cX2_actsSeen 15 = .ok (.istore 5, 2) := by decide +kernel
theorem dX2_actsSeen_17 : decode cX2_actsSeen 17 = .ok (.iload 5, 2) := by decide +kernel
theorem dX2_actsSeen_19 : decode cX2_actsSeen 19 = .ok (.iconst 1, 1) := by decide +kernel
theorem dX2_actsSeen_20 : decode cX2_actsSeen 20 = .ok (.iadd, 1) := by decide +kernel
theorem dX2_actsSeen_21 : decode cX2_actsSeen 21 = .ok (.aload_n 1, 1) := by decide +kernel
theorem dX2_actsSeen_22 : decode cX2_actsSeen 22 = .ok (.getfield 19, 3) := by decide +kernel
theorem dX2_actsSeen_25 : decode cX2_actsSeen 25 = .ok (.if_icmp .ge 46, 3) := by decide +kernel
theorem dX2_actsSeen_28 : decode cX2_actsSeen 28 = .ok (.aload_n 0, 1) := by decide +kernel
theorem dX2_actsSeen_29 : decode cX2_actsSeen 29 = .ok (.getfield 15, 3) := by decide +kernel
theorem dX2_actsSeen_32 : decode cX2_actsSeen 32 = .ok (.aload_n 1, 1) := by decide +kernel
theorem dX2_actsSeen_33 : decode cX2_actsSeen 33 = .ok (.iload 5, 2) := by decide +kernel
theorem dX2_actsSeen_35 : decode cX2_actsSeen 35 = .ok (.invokevirtual 31, 3) := by decide +kernel
theorem dX2_actsSeen_38 : decode cX2_actsSeen 38 = .ok (.iload 4, 2) := by decide +kernel
theorem dX2_actsSeen_40 : decode cX2_actsSeen 40 = .ok (.invokevirtual 53, 3) := by decide +kernel
theorem dX2_actsSeen_43 : decode cX2_actsSeen 43 = .ok (.aload_n 1, 1) := by decide +kernel
theorem dX2_actsSeen_44 : decode cX2_actsSeen 44 = .ok (.iload 5, 2) := by decide +kernel
theorem dX2_actsSeen_46 : decode cX2_actsSeen 46 = .ok (.iconst 1, 1) := by decide +kernel
theorem dX2_actsSeen_47 : decode cX2_actsSeen 47 = .ok (.iadd, 1) := by decide +kernel
theorem dX2_actsSeen_48 : decode cX2_actsSeen 48 = .ok (.invokevirtual 31, 3) := by decide +kernel
theorem dX2_actsSeen_51 : decode cX2_actsSeen 51 = .ok (.if_icmp .eq 14, 3) := by decide +kernel
theorem dX2_actsSeen_54 : decode cX2_actsSeen 54 = .ok (.lload_n 2, 1) := by decide +kernel
theorem dX2_actsSeen_55 : decode cX2_actsSeen 55 = .ok (.lconst 1, 1) := by decide +kernel
theorem dX2_actsSeen_56 : decode cX2_actsSeen 56 = .ok (.iload 4, 2) := by decide +kernel
theorem dX2_actsSeen_58 : decode cX2_actsSeen 58 = .ok (.lshl, 1) := by decide +kernel
theorem dX2_actsSeen_59 : decode cX2_actsSeen 59 = .ok (.ldc2_w 57, 3) := by decide +kernel
theorem dX2_actsSeen_62 : decode cX2_actsSeen 62 = .ok (.lxor, 1) := by decide +kernel
theorem dX2_actsSeen_63 : decode cX2_actsSeen 63 = .ok (.land, 1) := by decide +kernel
theorem dX2_actsSeen_64 : decode cX2_actsSeen 64 = .ok (.lstore_n 2, 1) := by decide +kernel
theorem dX2_actsSeen_65 : decode cX2_actsSeen 65 = .ok (.iinc 5 2, 3) := by decide +kernel
theorem dX2_actsSeen_68 : decode cX2_actsSeen 68 = .ok (.goto (-51), 3) := by decide +kernel
theorem dX2_actsSeen_71 : decode cX2_actsSeen 71 = .ok (.iinc 4 1, 3) := by decide +kernel
theorem dX2_actsSeen_74 : decode cX2_actsSeen 74 = .ok (.goto (-67), 3) := by decide +kernel
theorem dX2_actsSeen_77 : decode cX2_actsSeen 77 = .ok (.lload_n 2, 1) := by decide +kernel
theorem dX2_actsSeen_78 : decode cX2_actsSeen 78 = .ok (.lreturn, 1) := by decide +kernel
theorem dX2_areExitsAndPlaces_0 : decode cX2_areExitsAndPlaces 0 = .ok (.iconst 0, 1) := by decide +kernel
theorem dX2_areExitsAndPlaces_1 : decode cX2_areExitsAndPlaces 1 = .ok (.istore_n 2, 1) := by decide +kernel
theorem dX2_areExitsAndPlaces_2 : decode cX2_areExitsAndPlaces 2 = .ok (.iload_n 2, 1) := by decide +kernel
theorem dX2_areExitsAndPlaces_3 : decode cX2_areExitsAndPlaces 3 = .ok (.iconst 1, 1) := by decide +kernel
theorem dX2_areExitsAndPlaces_4 : decode cX2_areExitsAndPlaces 4 = .ok (.iadd, 1) := by decide +kernel
theorem dX2_areExitsAndPlaces_5 : decode cX2_areExitsAndPlaces 5 = .ok (.aload_n 1, 1) := by decide +kernel
theorem dX2_areExitsAndPlaces_6 : decode cX2_areExitsAndPlaces 6 = .ok (.getfield 19, 3) := by decide +kernel
theorem dX2_areExitsAndPlaces_9 : decode cX2_areExitsAndPlaces 9 = .ok (.if_icmp .ge 49, 3) := by decide +kernel
theorem dX2_areExitsAndPlaces_12 : decode cX2_areExitsAndPlaces 12 = .ok (.aload_n 0, 1) := by decide +kernel
theorem dX2_areExitsAndPlaces_13 : decode cX2_areExitsAndPlaces 13 = .ok (.getfield 15, 3) := by decide +kernel
theorem dX2_areExitsAndPlaces_16 : decode cX2_areExitsAndPlaces 16 = .ok (.getfield 25, 3) := by decide +kernel
theorem dX2_areExitsAndPlaces_19 : decode cX2_areExitsAndPlaces 19 = .ok (.aload_n 1, 1) := by decide +kernel
theorem dX2_areExitsAndPlaces_20 : decode cX2_areExitsAndPlaces 20 = .ok (.iload_n 2, 1) := by decide +kernel
theorem dX2_areExitsAndPlaces_21 : decode cX2_areExitsAndPlaces 21 = .ok (.invokevirtual 31, 3) := by decide +kernel
theorem dX2_areExitsAndPlaces_24 : decode cX2_areExitsAndPlaces 24 = .ok (.invokevirtual 35, 3) := by decide +kernel
theorem dX2_areExitsAndPlaces_27 : decode cX2_areExitsAndPlaces 27 = .ok (.ifCond .eq 23, 3) := by decide +kernel
theorem dX2_areExitsAndPlaces_30 : decode cX2_areExitsAndPlaces 30 = .ok (.aload_n 0, 1) := by decide +kernel
theorem dX2_areExitsAndPlaces_31 : decode cX2_areExitsAndPlaces 31 = .ok (.getfield 15, 3) := by decide +kernel
theorem dX2_areExitsAndPlaces_34 : decode cX2_areExitsAndPlaces 34 = .ok (.getfield 25, 3) := by decide +kernel
theorem dX2_areExitsAndPlaces_37 : decode cX2_areExitsAndPlaces 37 = .ok (.aload_n 1, 1) := by decide +kernel
theorem dX2_areExitsAndPlaces_38 : decode cX2_areExitsAndPlaces 38 = .ok (.iload_n 2, 1) := by decide +kernel
theorem dX2_areExitsAndPlaces_39 : decode cX2_areExitsAndPlaces 39 = .ok (.iconst 1, 1) := by decide +kernel
theorem dX2_areExitsAndPlaces_40 : decode cX2_areExitsAndPlaces 40 = .ok (.iadd, 1) := by decide +kernel
theorem dX2_areExitsAndPlaces_41 : decode cX2_areExitsAndPlaces 41 = .ok (.invokevirtual 31, 3) := by decide +kernel
theorem dX2_areExitsAndPlaces_44 : decode cX2_areExitsAndPlaces 44 = .ok (.invokevirtual 41, 3) := by decide +kernel
theorem dX2_areExitsAndPlaces_47 : decode cX2_areExitsAndPlaces 47 = .ok (.ifCond .ne 5, 3) := by decide +kernel
theorem dX2_areExitsAndPlaces_50 : decode cX2_areExitsAndPlaces 50 = .ok (.iconst 0, 1) := by decide +kernel
theorem dX2_areExitsAndPlaces_51 : decode cX2_areExitsAndPlaces 51 = .ok (.ireturn, 1) := by decide +kernel
theorem dX2_areExitsAndPlaces_52 : decode cX2_areExitsAndPlaces 52 = .ok (.iinc 2 2, 3) := by decide +kernel
theorem dX2_areExitsAndPlaces_55 : decode cX2_areExitsAndPlaces 55 = .ok (.goto (-53), 3) := by decide +kernel
theorem dX2_areExitsAndPlaces_58 : decode cX2_areExitsAndPlaces 58 = .ok (.iconst 1, 1) := by decide +kernel
theorem dX2_areExitsAndPlaces_59 : decode cX2_areExitsAndPlaces 59 = .ok (.ireturn, 1) := by decide +kernel
theorem dX2_areSeatsAndBehinds_0 : decode cX2_areSeatsAndBehinds 0 = .ok (.iconst 0, 1) := by decide +kernel
theorem dX2_areSeatsAndBehinds_1 : decode cX2_areSeatsAndBehinds 1 = .ok (.istore_n 2, 1) := by decide +kernel
theorem dX2_areSeatsAndBehinds_2 : decode cX2_areSeatsAndBehinds 2 = .ok (.iload_n 2, 1) := by decide +kernel
theorem dX2_areSeatsAndBehinds_3 : decode cX2_areSeatsAndBehinds 3 = .ok (.iconst 2, 1) := by decide +kernel
theorem dX2_areSeatsAndBehinds_4 : decode cX2_areSeatsAndBehinds 4 = .ok (.iadd, 1) := by decide +kernel
theorem dX2_areSeatsAndBehinds_5 : decode cX2_areSeatsAndBehinds 5 = .ok (.aload_n 1, 1) := by decide +kernel
theorem dX2_areSeatsAndBehinds_6 : decode cX2_areSeatsAndBehinds 6 = .ok (.getfield 19, 3) := by decide +kernel
theorem dX2_areSeatsAndBehinds_9 : decode cX2_areSeatsAndBehinds 9 = .ok (.if_icmp .ge 49, 3) := by decide +kernel
theorem dX2_areSeatsAndBehinds_12 : decode cX2_areSeatsAndBehinds 12 = .ok (.aload_n 0, 1) := by decide +kernel
theorem dX2_areSeatsAndBehinds_13 : decode cX2_areSeatsAndBehinds 13 = .ok (.getfield 15, 3) := by decide +kernel
theorem dX2_areSeatsAndBehinds_16 : decode cX2_areSeatsAndBehinds 16 = .ok (.getfield 25, 3) := by decide +kernel
theorem dX2_areSeatsAndBehinds_19 : decode cX2_areSeatsAndBehinds 19 = .ok (.aload_n 1, 1) := by decide +kernel
theorem dX2_areSeatsAndBehinds_20 : decode cX2_areSeatsAndBehinds 20 = .ok (.iload_n 2, 1) := by decide +kernel
theorem dX2_areSeatsAndBehinds_21 : decode cX2_areSeatsAndBehinds 21 = .ok (.invokevirtual 31, 3) := by decide +kernel
theorem dX2_areSeatsAndBehinds_24 : decode cX2_areSeatsAndBehinds 24 = .ok (.aload_n 1, 1) := by decide +kernel
theorem dX2_areSeatsAndBehinds_25 : decode cX2_areSeatsAndBehinds 25 = .ok (.iload_n 2, 1) := by decide +kernel
theorem dX2_areSeatsAndBehinds_26 : decode cX2_areSeatsAndBehinds 26 = .ok (.iconst 1, 1) := by decide +kernel
theorem dX2_areSeatsAndBehinds_27 : decode cX2_areSeatsAndBehinds 27 = .ok (.iadd, 1) := by decide +kernel
theorem dX2_areSeatsAndBehinds_28 : decode cX2_areSeatsAndBehinds 28 = .ok (.invokevirtual 31, 3) := by decide +kernel
theorem dX2_areSeatsAndBehinds_31 : decode cX2_areSeatsAndBehinds 31 = .ok (.invokevirtual 44, 3) := by decide +kernel
theorem dX2_areSeatsAndBehinds_34 : decode cX2_areSeatsAndBehinds 34 = .ok (.ifCond .eq 16, 3) := by decide +kernel
theorem dX2_areSeatsAndBehinds_37 : decode cX2_areSeatsAndBehinds 37 = .ok (.aload_n 1, 1) := by decide +kernel
theorem dX2_areSeatsAndBehinds_38 : decode cX2_areSeatsAndBehinds 38 = .ok (.iload_n 2, 1) := by decide +kernel
theorem dX2_areSeatsAndBehinds_39 : decode cX2_areSeatsAndBehinds 39 = .ok (.iconst 2, 1) := by decide +kernel
theorem dX2_areSeatsAndBehinds_40 : decode cX2_areSeatsAndBehinds 40 = .ok (.iadd, 1) := by decide +kernel
theorem dX2_areSeatsAndBehinds_41 : decode cX2_areSeatsAndBehinds 41 = .ok (.invokevirtual 31, 3) := by decide +kernel
theorem dX2_areSeatsAndBehinds_44 : decode cX2_areSeatsAndBehinds 44 = .ok (.invokestatic 48, 3) := by decide +kernel
theorem dX2_areSeatsAndBehinds_47 : decode cX2_areSeatsAndBehinds 47 = .ok (.ifCond .ne 5, 3) := by decide +kernel
theorem dX2_areSeatsAndBehinds_50 : decode cX2_areSeatsAndBehinds 50 = .ok (.iconst 0, 1) := by decide +kernel
theorem dX2_areSeatsAndBehinds_51 : decode cX2_areSeatsAndBehinds 51 = .ok (.ireturn, 1) := by decide +kernel
theorem dX2_areSeatsAndBehinds_52 : decode cX2_areSeatsAndBehinds 52 = .ok (.iinc 2 3, 3) := by decide +kernel
theorem dX2_areSeatsAndBehinds_55 : decode cX2_areSeatsAndBehinds 55 = .ok (.goto (-53), 3) := by decide +kernel
theorem dX2_areSeatsAndBehinds_58 : decode cX2_areSeatsAndBehinds 58 = .ok (.iconst 1, 1) := by decide +kernel
theorem dX2_areSeatsAndBehinds_59 : decode cX2_areSeatsAndBehinds 59 = .ok (.ireturn, 1) := by decide +kernel
theorem dX2_bestQuestion_0 : decode cX2_bestQuestion 0 = .ok (.iconst (-1), 1) := by decide +kernel
theorem dX2_bestQuestion_1 : decode cX2_bestQuestion 1 = .ok (.istore_n 3, 1) := by decide +kernel
theorem dX2_bestQuestion_2 : decode cX2_bestQuestion 2 = .ok (.lload_n 1, 1) := by decide +kernel
theorem dX2_bestQuestion_3 : decode cX2_bestQuestion 3 = .ok (.invokestatic 65, 3) := by decide +kernel
theorem dX2_bestQuestion_6 : decode cX2_bestQuestion 6 = .ok (.istore 4, 2) := by decide +kernel
theorem dX2_bestQuestion_8 : decode cX2_bestQuestion 8 = .ok (.iconst 0, 1) := by decide +kernel
theorem dX2_bestQuestion_9 : decode cX2_bestQuestion 9 = .ok (.istore 5, 2) := by decide +kernel
theorem dX2_bestQuestion_11 : decode cX2_bestQuestion 11 = .ok (.iload 5, 2) := by decide +kernel
theorem dX2_bestQuestion_13 : decode cX2_bestQuestion 13 = .ok (.aload_n 0, 1) := by decide +kernel
theorem dX2_bestQuestion_14 : decode cX2_bestQuestion 14 = .ok (.getfield 15, 3) := by decide +kernel
theorem dX2_bestQuestion_17 : decode cX2_bestQuestion 17 = .ok (.getfield 25, 3) := by decide +kernel
theorem dX2_bestQuestion_20 : decode cX2_bestQuestion 20 = .ok (.getfield 71, 3) := by decide +kernel
theorem dX2_bestQuestion_23 : decode cX2_bestQuestion 23 = .ok (.if_icmp .ge 32, 3) := by decide +kernel
theorem dX2_bestQuestion_26 : decode cX2_bestQuestion 26 = .ok (.aload_n 0, 1) := by decide +kernel
theorem dX2_bestQuestion_27 : decode cX2_bestQuestion 27 = .ok (.iload 5, 2) := by decide +kernel
theorem dX2_bestQuestion_29 : decode cX2_bestQuestion 29 = .ok (.lload_n 1, 1) := by decide +kernel
theorem dX2_bestQuestion_30 : decode cX2_bestQuestion 30 = .ok (.invokevirtual 74, 3) := by decide +kernel
theorem dX2_bestQuestion_33 : decode cX2_bestQuestion 33 = .ok (.istore 6, 2) := by decide +kernel
theorem dX2_bestQuestion_35 : decode cX2_bestQuestion 35 = .ok (.iload 6, 2) := by decide +kernel
theorem dX2_bestQuestion_37 : decode cX2_bestQuestion 37 = .ok (.iload 4, 2) := by decide +kernel
theorem dX2_bestQuestion_39 : decode cX2_bestQuestion 39 = .ok (.if_icmp .ge 10, 3) := by decide +kernel
theorem dX2_bestQuestion_42 : decode cX2_bestQuestion 42 = .ok (.iload 6, 2) := by decide +kernel
theorem dX2_bestQuestion_44 : decode cX2_bestQuestion 44 = .ok (.istore 4, 2) := by decide +kernel
theorem dX2_bestQuestion_46 : decode cX2_bestQuestion 46 = .ok (.iload 5, 2) := by decide +kernel
theorem dX2_bestQuestion_48 : decode cX2_bestQuestion 48 = .ok (.istore_n 3, 1) := by decide +kernel
theorem dX2_bestQuestion_49 : decode cX2_bestQuestion 49 = .ok (.iinc 5 1, 3) := by decide +kernel
theorem dX2_bestQuestion_52 : decode cX2_bestQuestion 52 = .ok (.goto (-41), 3) := by decide +kernel
theorem dX2_bestQuestion_55 : decode cX2_bestQuestion 55 = .ok (.iload_n 3, 1) := by decide +kernel
theorem dX2_bestQuestion_56 : decode cX2_bestQuestion 56 = .ok (.ireturn, 1) := by decide +kernel
theorem dX2_init_0 : decode cX2_init 0 = .ok (.aload_n 0, 1) := by decide +kernel
theorem dX2_init_1 : decode cX2_init 1 = .ok (.invokespecial 3, 3) := by decide +kernel
theorem dX2_init_4 : decode cX2_init 4 = .ok (.aload_n 0, 1) := by decide +kernel
theorem dX2_init_5 : decode cX2_init 5 = .ok (.bipush 9, 2) := by decide +kernel
theorem dX2_init_7 : decode cX2_init 7 = .ok (.newarray .int, 2) := by decide +kernel
theorem dX2_init_9 : decode cX2_init 9 = .ok (.putfield 9, 3) := by decide +kernel
theorem dX2_init_12 : decode cX2_init 12 = .ok (.aload_n 0, 1) := by decide +kernel
theorem dX2_init_13 : decode cX2_init 13 = .ok (.aload_n 1, 1) := by decide +kernel
theorem dX2_init_14 : decode cX2_init 14 = .ok (.putfield 15, 3) := by decide +kernel
theorem dX2_init_17 : decode cX2_init 17 = .ok (.return_, 1) := by decide +kernel
theorem dX2_leftAtWorst_0 : decode cX2_leftAtWorst 0 = .ok (.aload_n 0, 1) := by decide +kernel
theorem dX2_leftAtWorst_1 : decode cX2_leftAtWorst 1 = .ok (.lload_n 1, 1) := by decide +kernel
theorem dX2_leftAtWorst_2 : decode cX2_leftAtWorst 2 = .ok (.invokevirtual 78, 3) := by decide +kernel
theorem dX2_leftAtWorst_5 : decode cX2_leftAtWorst 5 = .ok (.istore_n 3, 1) := by decide +kernel
theorem dX2_leftAtWorst_6 : decode cX2_leftAtWorst 6 = .ok (.iload_n 3, 1) := by decide +kernel
theorem dX2_leftAtWorst_7 : decode cX2_leftAtWorst 7 = .ok (.iconst (-1), 1) := by decide +kernel
theorem dX2_leftAtWorst_8 : decode cX2_leftAtWorst 8 = .ok (.if_icmp .ne 10, 3) := by decide +kernel
theorem dX2_leftAtWorst_11 : decode cX2_leftAtWorst 11 = .ok (.lload_n 1, 1) := by decide +kernel
theorem dX2_leftAtWorst_12 : decode cX2_leftAtWorst 12 = .ok (.invokestatic 65, 3) := by decide +kernel
theorem dX2_leftAtWorst_15 : decode cX2_leftAtWorst 15 = .ok (.goto 9, 3) := by decide +kernel
theorem dX2_leftAtWorst_18 : decode cX2_leftAtWorst 18 = .ok (.aload_n 0, 1) := by decide +kernel
theorem dX2_leftAtWorst_19 : decode cX2_leftAtWorst 19 = .ok (.iload_n 3, 1) := by decide +kernel
theorem dX2_leftAtWorst_20 : decode cX2_leftAtWorst 20 = .ok (.lload_n 1, 1) := by decide +kernel
theorem dX2_leftAtWorst_21 : decode cX2_leftAtWorst 21 = .ok (.invokevirtual 74, 3) := by decide +kernel
theorem dX2_leftAtWorst_24 : decode cX2_leftAtWorst 24 = .ok (.ireturn, 1) := by decide +kernel
theorem dX2_leftByAsking_0 : decode cX2_leftByAsking 0 = .ok (.iconst 0, 1) := by decide +kernel
theorem dX2_leftByAsking_1 : decode cX2_leftByAsking 1 = .ok (.istore 4, 2) := by decide +kernel
theorem dX2_leftByAsking_3 : decode cX2_leftByAsking 3 = .ok (.iload 4, 2) := by decide +kernel
theorem dX2_leftByAsking_5 : decode cX2_leftByAsking 5 = .ok (.bipush 9, 2) := by decide +kernel
theorem dX2_leftByAsking_7 : decode cX2_leftByAsking 7 = .ok (.if_icmp .ge 17, 3) := by decide +kernel
theorem dX2_leftByAsking_10 : decode cX2_leftByAsking 10 = .ok (.aload_n 0, 1) := by decide +kernel
theorem dX2_leftByAsking_11 : decode cX2_leftByAsking 11 = .ok (.getfield 9, 3) := by decide +kernel
theorem dX2_leftByAsking_14 : decode cX2_leftByAsking 14 = .ok (.iload 4, 2) := by decide +kernel
theorem dX2_leftByAsking_16 : decode cX2_leftByAsking 16 = .ok (.iconst 0, 1) := by decide +kernel
theorem dX2_leftByAsking_17 : decode cX2_leftByAsking 17 = .ok (.iastore, 1) := by decide +kernel
theorem dX2_leftByAsking_18 : decode cX2_leftByAsking 18 = .ok (.iinc 4 1, 3) := by decide +kernel
theorem dX2_leftByAsking_21 : decode cX2_leftByAsking 21 = .ok (.goto (-18), 3) := by decide +kernel
theorem dX2_leftByAsking_24 : decode cX2_leftByAsking 24 = .ok (.iconst 0, 1) := by decide +kernel
theorem dX2_leftByAsking_25 : decode cX2_leftByAsking 25 = .ok (.istore 4, 2) := by decide +kernel
theorem dX2_leftByAsking_27 : decode cX2_leftByAsking 27 = .ok (.iconst 0, 1) := by decide +kernel
theorem dX2_leftByAsking_28 : decode cX2_leftByAsking 28 = .ok (.istore 5, 2) := by decide +kernel
theorem dX2_leftByAsking_30 : decode cX2_leftByAsking 30 = .ok (.iload 5, 2) := by decide +kernel
theorem dX2_leftByAsking_32 : decode cX2_leftByAsking 32 = .ok (.bipush 60, 2) := by decide +kernel
theorem dX2_leftByAsking_34 : decode cX2_leftByAsking 34 = .ok (.if_icmp .ge 72, 3) := by decide +kernel
theorem dX2_leftByAsking_37 : decode cX2_leftByAsking 37 = .ok (.aload_n 0, 1) := by decide +kernel
theorem dX2_leftByAsking_38 : decode cX2_leftByAsking 38 = .ok (.getfield 15, 3) := by decide +kernel
theorem dX2_leftByAsking_41 : decode cX2_leftByAsking 41 = .ok (.iload_n 1, 1) := by decide +kernel
theorem dX2_leftByAsking_42 : decode cX2_leftByAsking 42 = .ok (.iload 5, 2) := by decide +kernel
theorem dX2_leftByAsking_44 : decode cX2_leftByAsking 44 = .ok (.invokevirtual 53, 3) := by decide +kernel
theorem dX2_leftByAsking_47 : decode cX2_leftByAsking 47 = .ok (.istore 6, 2) := by decide +kernel
theorem dX2_leftByAsking_49 : decode cX2_leftByAsking 49 = .ok (.lload_n 2, 1) := by decide +kernel
theorem dX2_leftByAsking_50 : decode cX2_leftByAsking 50 = .ok (.iload 5, 2) := by decide +kernel
theorem dX2_leftByAsking_52 : decode cX2_leftByAsking 52 = .ok (.lshr, 1) := by decide +kernel
theorem dX2_leftByAsking_53 : decode cX2_leftByAsking 53 = .ok (.lconst 1, 1) := by decide +kernel
theorem dX2_leftByAsking_54 : decode cX2_leftByAsking 54 = .ok (.land, 1) := by decide +kernel
theorem dX2_leftByAsking_55 : decode cX2_leftByAsking 55 = .ok (.lconst 1, 1) := by decide +kernel
theorem dX2_leftByAsking_56 : decode cX2_leftByAsking 56 = .ok (.lcmp, 1) := by decide +kernel
theorem dX2_leftByAsking_57 : decode cX2_leftByAsking 57 = .ok (.ifCond .ne 43, 3) := by decide +kernel
theorem dX2_leftByAsking_60 : decode cX2_leftByAsking 60 = .ok (.aload_n 0, 1) := by decide +kernel
theorem dX2_leftByAsking_61 : decode cX2_leftByAsking 61 = .ok (.getfield 15, 3) := by decide +kernel
theorem dX2_leftByAsking_64 : decode cX2_leftByAsking 64 = .ok (.getfield 25, 3) := by decide +kernel
theorem dX2_leftByAsking_67 : decode cX2_leftByAsking 67 = .ok (.iload 6, 2) := by decide +kernel
theorem dX2_leftByAsking_69 : decode cX2_leftByAsking 69 = .ok (.invokevirtual 41, 3) := by decide +kernel
theorem dX2_leftByAsking_72 : decode cX2_leftByAsking 72 = .ok (.ifCond .eq 28, 3) := by decide +kernel
theorem dX2_leftByAsking_75 : decode cX2_leftByAsking 75 = .ok (.aload_n 0, 1) := by decide +kernel
theorem dX2_leftByAsking_76 : decode cX2_leftByAsking 76 = .ok (.getfield 9, 3) := by decide +kernel
theorem dX2_leftByAsking_79 : decode cX2_leftByAsking 79 = .ok (.iload 6, 2) := by decide +kernel
theorem dX2_leftByAsking_81 : decode cX2_leftByAsking 81 = .ok (.dup2, 1) := by decide +kernel
theorem dX2_leftByAsking_82 : decode cX2_leftByAsking 82 = .ok (.iaload, 1) := by decide +kernel
theorem dX2_leftByAsking_83 : decode cX2_leftByAsking 83 = .ok (.iconst 1, 1) := by decide +kernel
theorem dX2_leftByAsking_84 : decode cX2_leftByAsking 84 = .ok (.iadd, 1) := by decide +kernel
theorem dX2_leftByAsking_85 : decode cX2_leftByAsking 85 = .ok (.iastore, 1) := by decide +kernel
theorem dX2_leftByAsking_86 : decode cX2_leftByAsking 86 = .ok (.iload 4, 2) := by decide +kernel
theorem dX2_leftByAsking_88 : decode cX2_leftByAsking 88 = .ok (.aload_n 0, 1) := by decide +kernel
theorem dX2_leftByAsking_89 : decode cX2_leftByAsking 89 = .ok (.getfield 9, 3) := by decide +kernel
theorem dX2_leftByAsking_92 : decode cX2_leftByAsking 92 = .ok (.iload 6, 2) := by decide +kernel
theorem dX2_leftByAsking_94 : decode cX2_leftByAsking 94 = .ok (.iaload, 1) := by decide +kernel
theorem dX2_leftByAsking_95 : decode cX2_leftByAsking 95 = .ok (.invokestatic 81, 3) := by decide +kernel
theorem dX2_leftByAsking_98 : decode cX2_leftByAsking 98 = .ok (.istore 4, 2) := by decide +kernel
theorem dX2_leftByAsking_100 : decode cX2_leftByAsking 100 = .ok (.iinc 5 1, 3) := by decide +kernel
theorem dX2_leftByAsking_103 : decode cX2_leftByAsking 103 = .ok (.goto (-73), 3) := by decide +kernel
theorem dX2_leftByAsking_106 : decode cX2_leftByAsking 106 = .ok (.iload 4, 2) := by decide +kernel
theorem dX2_leftByAsking_108 : decode cX2_leftByAsking 108 = .ok (.ireturn, 1) := by decide +kernel
theorem dX2_onlyPlace_0 : decode cX2_onlyPlace 0 = .ok (.iconst (-1), 1) := by decide +kernel
theorem dX2_onlyPlace_1 : decode cX2_onlyPlace 1 = .ok (.istore 4, 2) := by decide +kernel
theorem dX2_onlyPlace_3 : decode cX2_onlyPlace 3 = .ok (.iconst 0, 1) := by decide +kernel
theorem dX2_onlyPlace_4 : decode cX2_onlyPlace 4 = .ok (.istore 5, 2) := by decide +kernel
theorem dX2_onlyPlace_6 : decode cX2_onlyPlace 6 = .ok (.iload 5, 2) := by decide +kernel
theorem dX2_onlyPlace_8 : decode cX2_onlyPlace 8 = .ok (.bipush 60, 2) := by decide +kernel
theorem dX2_onlyPlace_10 : decode cX2_onlyPlace 10 = .ok (.if_icmp .ge 51, 3) := by decide +kernel
theorem dX2_onlyPlace_13 : decode cX2_onlyPlace 13 = .ok (.lload_n 2, 1) := by decide +kernel
theorem dX2_onlyPlace_14 : decode cX2_onlyPlace 14 = .ok (.iload 5, 2) := by decide +kernel
theorem dX2_onlyPlace_16 : decode cX2_onlyPlace 16 = .ok (.lshr, 1) := by decide +kernel
theorem dX2_onlyPlace_17 : decode cX2_onlyPlace 17 = .ok (.lconst 1, 1) := by decide +kernel
theorem dX2_onlyPlace_18 : decode cX2_onlyPlace 18 = .ok (.land, 1) := by decide +kernel
theorem dX2_onlyPlace_19 : decode cX2_onlyPlace 19 = .ok (.lconst 1, 1) := by decide +kernel
theorem dX2_onlyPlace_20 : decode cX2_onlyPlace 20 = .ok (.lcmp, 1) := by decide +kernel
theorem dX2_onlyPlace_21 : decode cX2_onlyPlace 21 = .ok (.ifCond .ne 34, 3) := by decide +kernel
theorem dX2_onlyPlace_24 : decode cX2_onlyPlace 24 = .ok (.aload_n 0, 1) := by decide +kernel
theorem dX2_onlyPlace_25 : decode cX2_onlyPlace 25 = .ok (.getfield 15, 3) := by decide +kernel
theorem dX2_onlyPlace_28 : decode cX2_onlyPlace 28 = .ok (.iload_n 1, 1) := by decide +kernel
theorem dX2_onlyPlace_29 : decode cX2_onlyPlace 29 = .ok (.iload 5, 2) := by decide +kernel
theorem dX2_onlyPlace_31 : decode cX2_onlyPlace 31 = .ok (.invokevirtual 53, 3) := by decide +kernel
theorem dX2_onlyPlace_34 : decode cX2_onlyPlace 34 = .ok (.istore 6, 2) := by decide +kernel
theorem dX2_onlyPlace_36 : decode cX2_onlyPlace 36 = .ok (.iload 4, 2) := by decide +kernel
theorem dX2_onlyPlace_38 : decode cX2_onlyPlace 38 = .ok (.iconst (-1), 1) := by decide +kernel
theorem dX2_onlyPlace_39 : decode cX2_onlyPlace 39 = .ok (.if_icmp .eq 12, 3) := by decide +kernel
theorem dX2_onlyPlace_42 : decode cX2_onlyPlace 42 = .ok (.iload 4, 2) := by decide +kernel
theorem dX2_onlyPlace_44 : decode cX2_onlyPlace 44 = .ok (.iload 6, 2) := by decide +kernel
theorem dX2_onlyPlace_46 : decode cX2_onlyPlace 46 = .ok (.if_icmp .eq 5, 3) := by decide +kernel
theorem dX2_onlyPlace_49 : decode cX2_onlyPlace 49 = .ok (.iconst (-1), 1) := by decide +kernel
theorem dX2_onlyPlace_50 : decode cX2_onlyPlace 50 = .ok (.ireturn, 1) := by decide +kernel
theorem dX2_onlyPlace_51 : decode cX2_onlyPlace 51 = .ok (.iload 6, 2) := by decide +kernel
theorem dX2_onlyPlace_53 : decode cX2_onlyPlace 53 = .ok (.istore 4, 2) := by decide +kernel
theorem dX2_onlyPlace_55 : decode cX2_onlyPlace 55 = .ok (.iinc 5 1, 3) := by decide +kernel
theorem dX2_onlyPlace_58 : decode cX2_onlyPlace 58 = .ok (.goto (-52), 3) := by decide +kernel
theorem dX2_onlyPlace_61 : decode cX2_onlyPlace 61 = .ok (.iload 4, 2) := by decide +kernel
theorem dX2_onlyPlace_63 : decode cX2_onlyPlace 63 = .ok (.ireturn, 1) := by decide +kernel
theorem dX3_draw_0 : decode cX3_draw 0 = .ok (.iconst 0, 1) := by decide +kernel
theorem dX3_draw_1 : decode cX3_draw 1 = .ok (.istore 4, 2) := by decide +kernel
theorem dX3_draw_3 : decode cX3_draw 3 = .ok (.iload 4, 2) := by decide +kernel
theorem dX3_draw_5 : decode cX3_draw 5 = .ok (.iconst 5, 1) := by decide +kernel
theorem dX3_draw_6 : decode cX3_draw 6 = .ok (.if_icmp .ge 17, 3) := by decide +kernel
theorem dX3_draw_9 : decode cX3_draw 9 = .ok (.aload_n 0, 1) := by decide +kernel
theorem dX3_draw_10 : decode cX3_draw 10 = .ok (.getfield 9, 3) := by decide +kernel
theorem dX3_draw_13 : decode cX3_draw 13 = .ok (.iload 4, 2) := by decide +kernel
theorem dX3_draw_15 : decode cX3_draw 15 = .ok (.iconst 0, 1) := by decide +kernel
theorem dX3_draw_16 : decode cX3_draw 16 = .ok (.iastore, 1) := by decide +kernel
theorem dX3_draw_17 : decode cX3_draw 17 = .ok (.iinc 4 1, 3) := by decide +kernel
theorem dX3_draw_20 : decode cX3_draw 20 = .ok (.goto (-17), 3) := by decide +kernel
theorem dX3_draw_23 : decode cX3_draw 23 = .ok (.aload_n 0, 1) := by decide +kernel
theorem dX3_draw_24 : decode cX3_draw 24 = .ok (.iconst 0, 1) := by decide +kernel
theorem dX3_draw_25 : decode cX3_draw 25 = .ok (.putfield 19, 3) := by decide +kernel
theorem dX3_draw_28 : decode cX3_draw 28 = .ok (.lload_n 1, 1) := by decide +kernel
theorem dX3_draw_29 : decode cX3_draw 29 = .ok (.lstore 4, 2) := by decide +kernel
theorem dX3_draw_31 : decode cX3_draw 31 = .ok (.iconst 0, 1) := by decide +kernel
theorem dX3_draw_32 : decode cX3_draw 32 = .ok (.istore 6, 2) := by decide +kernel
theorem dX3_draw_34 : decode cX3_draw 34 = .ok (.iload 6, 2) := by decide +kernel
theorem dX3_draw_36 : decode cX3_draw 36 = .ok (.bipush 36, 2) := by decide +kernel
theorem dX3_draw_38 : decode cX3_draw 38 = .ok (.if_icmp .ge 79, 3) := by decide +kernel
theorem dX3_draw_41 : decode cX3_draw 41 = .ok (.aload_n 0, 1) := by decide +kernel
theorem dX3_draw_42 : decode cX3_draw 42 = .ok (.getfield 15, 3) := by decide +kernel
theorem dX3_draw_45 : decode cX3_draw 45 = .ok (.getfield 23, 3) := by decide +kernel
theorem dX3_draw_48 : decode cX3_draw 48 = .ok (.getfield 29, 3) := by decide +kernel
theorem dX3_draw_51 : decode cX3_draw 51 = .ok (.ifCond .le 66, 3) := by decide +kernel
theorem dX3_draw_54 : decode cX3_draw 54 = .ok (.aload_n 0, 1) := by decide +kernel
theorem dX3_draw_55 : decode cX3_draw 55 = .ok (.getfield 15, 3) := by decide +kernel
theorem dX3_draw_58 : decode cX3_draw 58 = .ok (.getfield 23, 3) := by decide +kernel
theorem dX3_draw_61 : decode cX3_draw 61 = .ok (.iload 6, 2) := by decide +kernel
theorem dX3_draw_63 : decode cX3_draw 63 = .ok (.invokevirtual 34, 3) := by decide +kernel
theorem dX3_draw_66 : decode cX3_draw 66 = .ok (.ifCond .eq 45, 3) := by decide +kernel
theorem dX3_draw_69 : decode cX3_draw 69 = .ok (.ldc2_w 38, 3) := by decide +kernel
theorem dX3_draw_72 : decode cX3_draw 72 = .ok (.lload 4, 2) := by decide +kernel
theorem dX3_draw_74 : decode cX3_draw 74 = .ok (.lmul, 1) := by decide +kernel
theorem dX3_draw_75 : decode cX3_draw 75 = .ok (.ldc2_w 40, 3) := by decide +kernel
theorem dX3_draw_78 : decode cX3_draw 78 = .ok (.ladd, 1) := by decide +kernel
theorem dX3_draw_79 : decode cX3_draw 79 = .ok (.ldc2_w 42, 3) := by decide +kernel
theorem dX3_draw_82 : decode cX3_draw 82 = .ok (.lrem, 1) := by decide +kernel
theorem dX3_draw_83 : decode cX3_draw 83 = .ok (.lstore 4, 2) := by decide +kernel
theorem dX3_draw_85 : decode cX3_draw 85 = .ok (.aload_n 0, 1) := by decide +kernel
theorem dX3_draw_86 : decode cX3_draw 86 = .ok (.iload 6, 2) := by decide +kernel
theorem dX3_draw_88 : decode cX3_draw 88 = .ok (.lload 4, 2) := by decide +kernel
theorem dX3_draw_90 : decode cX3_draw 90 = .ok (.ldc2_w 44, 3) := by decide +kernel
theorem dX3_draw_93 : decode cX3_draw 93 = .ok (.ldiv, 1) := by decide +kernel
theorem dX3_draw_94 : decode cX3_draw 94 = .ok (.aload_n 0, 1) := by decide +kernel
theorem dX3_draw_95 : decode cX3_draw 95 = .ok (.getfield 15, 3) := by decide +kernel
theorem dX3_draw_98 : decode cX3_draw 98 = .ok (.getfield 23, 3) := by decide +kernel
theorem dX3_draw_101 : decode cX3_draw 101 = .ok (.getfield 29, 3) := by decide +kernel
theorem dX3_draw_104 : decode cX3_draw 104 = .ok (.i2l, 1) := by decide +kernel
theorem dX3_draw_105 : decode cX3_draw 105 = .ok (.lrem, 1) := by decide +kernel
theorem dX3_draw_106 : decode cX3_draw 106 = .ok (.l2i, 1) := by decide +kernel
theorem dX3_draw_107 : decode cX3_draw 107 = .ok (.iload_n 3, 1) := by decide +kernel
theorem dX3_draw_108 : decode cX3_draw 108 = .ok (.invokevirtual 46, 3) := by decide +kernel
theorem dX3_draw_111 : decode cX3_draw 111 = .ok (.iinc 6 1, 3) := by decide +kernel
theorem dX3_draw_114 : decode cX3_draw 114 = .ok (.goto (-80), 3) := by decide +kernel
theorem dX3_draw_117 : decode cX3_draw 117 = .ok (.return_, 1) := by decide +kernel
theorem dX3_goesOut_0 : decode cX3_goesOut 0 = .ok (.aload_n 0, 1) := by decide +kernel
theorem dX3_goesOut_1 : decode cX3_goesOut 1 = .ok (.getfield 15, 3) := by decide +kernel
theorem dX3_goesOut_4 : decode cX3_goesOut 4 = .ok (.iload_n 2, 1) := by decide +kernel
theorem dX3_goesOut_5 : decode cX3_goesOut 5 = .ok (.iload_n 3, 1) := by decide +kernel
theorem dX3_goesOut_6 : decode cX3_goesOut 6 = .ok (.invokevirtual 50, 3) := by decide +kernel
theorem dX3_goesOut_9 : decode cX3_goesOut 9 = .ok (.istore 4, 2) := by decide +kernel
theorem dX3_goesOut_11 : decode cX3_goesOut 11 = .ok (.iload 4, 2) := by decide +kernel
theorem dX3_goesOut_13 : decode cX3_goesOut 13 = .ok (.invokestatic 54, 3) := by decide +kernel
theorem dX3_goesOut_16 : decode cX3_goesOut 16 = .ok (.ifCond .eq 14, 3) := by decide +kernel
theorem dX3_goesOut_19 : decode cX3_goesOut 19 = .ok (.aload_n 0, 1) := by decide +kernel
theorem dX3_goesOut_20 : decode cX3_goesOut 20 = .ok (.getfield 9, 3) := by decide +kernel
theorem dX3_goesOut_23 : decode cX3_goesOut 23 = .ok (.iload 4, 2) := by decide +kernel
theorem dX3_goesOut_25 : decode cX3_goesOut 25 = .ok (.dup2, 1) := by decide +kernel
theorem dX3_goesOut_26 : decode cX3_goesOut 26 = .ok (.iaload, 1) := by decide +kernel
theorem dX3_goesOut_27 : decode cX3_goesOut 27 = .ok (.iconst 1, 1) := by decide +kernel
theorem dX3_goesOut_28 : decode cX3_goesOut 28 = .ok (.iadd, 1) := by decide +kernel
theorem dX3_goesOut_29 : decode cX3_goesOut 29 = .ok (.iastore, 1) := by decide +kernel
theorem dX3_goesOut_30 : decode cX3_goesOut 30 = .ok (.aload_n 0, 1) := by decide +kernel
theorem dX3_goesOut_31 : decode cX3_goesOut 31 = .ok (.dup, 1) := by decide +kernel
theorem dX3_goesOut_32 : decode cX3_goesOut 32 = .ok (.getfield 19, 3) := by decide +kernel
theorem dX3_goesOut_35 : decode cX3_goesOut 35 = .ok (.aload_n 0, 1) := by decide +kernel
theorem dX3_goesOut_36 : decode cX3_goesOut 36 = .ok (.getfield 15, 3) := by decide +kernel
theorem dX3_goesOut_39 : decode cX3_goesOut 39 = .ok (.getfield 23, 3) := by decide +kernel
theorem dX3_goesOut_42 : decode cX3_goesOut 42 = .ok (.iload_n 1, 1) := by decide +kernel
theorem dX3_goesOut_43 : decode cX3_goesOut 43 = .ok (.aload_n 0, 1) := by decide +kernel
theorem dX3_goesOut_44 : decode cX3_goesOut 44 = .ok (.getfield 15, 3) := by decide +kernel
theorem dX3_goesOut_47 : decode cX3_goesOut 47 = .ok (.iload_n 2, 1) := by decide +kernel
theorem dX3_goesOut_48 : decode cX3_goesOut 48 = .ok (.iload_n 3, 1) := by decide +kernel
theorem dX3_goesOut_49 : decode cX3_goesOut 49 = .ok (.invokevirtual 57, 3) := by decide +kernel
theorem dX3_goesOut_52 : decode cX3_goesOut 52 = .ok (.invokevirtual 60, 3) := by decide +kernel
theorem dX3_goesOut_55 : decode cX3_goesOut 55 = .ok (.iadd, 1) := by decide +kernel
theorem dX3_goesOut_56 : decode cX3_goesOut 56 = .ok (.putfield 19, 3) := by decide +kernel
theorem dX3_goesOut_59 : decode cX3_goesOut 59 = .ok (.return_, 1) := by decide +kernel
theorem dX3_init_0 : decode cX3_init 0 = .ok (.aload_n 0, 1) := by decide +kernel
theorem dX3_init_1 : decode cX3_init 1 = .ok (.invokespecial 3, 3) := by decide +kernel
theorem dX3_init_4 : decode cX3_init 4 = .ok (.aload_n 0, 1) := by decide +kernel
theorem dX3_init_5 : decode cX3_init 5 = .ok (.iconst 5, 1) := by decide +kernel
theorem dX3_init_6 : decode cX3_init 6 = .ok (.newarray .int, 2) := by decide +kernel
theorem dX3_init_8 : decode cX3_init 8 = .ok (.putfield 9, 3) := by decide +kernel
theorem dX3_init_11 : decode cX3_init 11 = .ok (.aload_n 0, 1) := by decide +kernel
theorem dX3_init_12 : decode cX3_init 12 = .ok (.aload_n 1, 1) := by decide +kernel
theorem dX3_init_13 : decode cX3_init 13 = .ok (.putfield 15, 3) := by decide +kernel
theorem dX3_init_16 : decode cX3_init 16 = .ok (.return_, 1) := by decide +kernel
theorem dX3_isLucky_0 : decode cX3_isLucky 0 = .ok (.aload_n 0, 1) := by decide +kernel
theorem dX3_isLucky_1 : decode cX3_isLucky 1 = .ok (.getfield 9, 3) := by decide +kernel
theorem dX3_isLucky_4 : decode cX3_isLucky 4 = .ok (.iconst 1, 1) := by decide +kernel
theorem dX3_isLucky_5 : decode cX3_isLucky 5 = .ok (.iaload, 1) := by decide +kernel
theorem dX3_isLucky_6 : decode cX3_isLucky 6 = .ok (.aload_n 0, 1) := by decide +kernel
theorem dX3_isLucky_7 : decode cX3_isLucky 7 = .ok (.getfield 9, 3) := by decide +kernel
theorem dX3_isLucky_10 : decode cX3_isLucky 10 = .ok (.iconst 2, 1) := by decide +kernel
theorem dX3_isLucky_11 : decode cX3_isLucky 11 = .ok (.iaload, 1) := by decide +kernel
theorem dX3_isLucky_12 : decode cX3_isLucky 12 = .ok (.iadd, 1) := by decide +kernel
theorem dX3_isLucky_13 : decode cX3_isLucky 13 = .ok (.aload_n 0, 1) := by decide +kernel
theorem dX3_isLucky_14 : decode cX3_isLucky 14 = .ok (.getfield 9, 3) := by decide +kernel
theorem dX3_isLucky_17 : decode cX3_isLucky 17 = .ok (.iconst 3, 1) := by decide +kernel
theorem dX3_isLucky_18 : decode cX3_isLucky 18 = .ok (.iaload, 1) := by decide +kernel
theorem dX3_isLucky_19 : decode cX3_isLucky 19 = .ok (.iadd, 1) := by decide +kernel
theorem dX3_isLucky_20 : decode cX3_isLucky 20 = .ok (.ifCond .ne 7, 3) := by decide +kernel
theorem dX3_isLucky_23 : decode cX3_isLucky 23 = .ok (.iconst 1, 1) := by decide +kernel
theorem dX3_isLucky_24 : decode cX3_isLucky 24 = .ok (.goto 4, 3) := by decide +kernel
theorem dX3_isLucky_27 : decode cX3_isLucky 27 = .ok (.iconst 0, 1) := by decide +kernel
theorem dX3_isLucky_28 : decode cX3_isLucky 28 = .ok (.ireturn, 1) := by decide +kernel
theorem dX4_bestPlace_0 : decode cX4_bestPlace 0 = .ok (.iconst 0, 1) := by decide +kernel
theorem dX4_bestPlace_1 : decode cX4_bestPlace 1 = .ok (.istore_n 3, 1) := by decide +kernel
theorem dX4_bestPlace_2 : decode cX4_bestPlace 2 = .ok (.iconst 1, 1) := by decide +kernel
theorem dX4_bestPlace_3 : decode cX4_bestPlace 3 = .ok (.istore 4, 2) := by decide +kernel
theorem dX4_bestPlace_5 : decode cX4_bestPlace 5 = .ok (.iload 4, 2) := by decide +kernel
theorem dX4_bestPlace_7 : decode cX4_bestPlace 7 = .ok (.aload_n 0, 1) := by decide +kernel
theorem dX4_bestPlace_8 : decode cX4_bestPlace 8 = .ok (.getfield 15, 3) := by decide +kernel
theorem dX4_bestPlace_11 : decode cX4_bestPlace 11 = .ok (.getfield 25, 3) := by decide +kernel
theorem dX4_bestPlace_14 : decode cX4_bestPlace 14 = .ok (.getfield 44, 3) := by decide +kernel
theorem dX4_bestPlace_17 : decode cX4_bestPlace 17 = .ok (.if_icmp .ge 30, 3) := by decide +kernel
theorem dX4_bestPlace_20 : decode cX4_bestPlace 20 = .ok (.aload_n 0, 1) := by decide +kernel
theorem dX4_bestPlace_21 : decode cX4_bestPlace 21 = .ok (.iload_n 1, 1) := by decide +kernel
theorem dX4_bestPlace_22 : decode cX4_bestPlace 22 = .ok (.iload 4, 2) := by decide +kernel
theorem dX4_bestPlace_24 : decode cX4_bestPlace 24 = .ok (.iload_n 2, 1) := by decide +kernel
theorem dX4_bestPlace_25 : decode cX4_bestPlace 25 = .ok (.invokevirtual 48, 3) := by decide +kernel
theorem dX4_bestPlace_28 : decode cX4_bestPlace 28 = .ok (.aload_n 0, 1) := by decide +kernel
theorem dX4_bestPlace_29 : decode cX4_bestPlace 29 = .ok (.iload_n 1, 1) := by decide +kernel
theorem dX4_bestPlace_30 : decode cX4_bestPlace 30 = .ok (.iload_n 3, 1) := by decide +kernel
theorem dX4_bestPlace_31 : decode cX4_bestPlace 31 = .ok (.iload_n 2, 1) := by decide +kernel
theorem dX4_bestPlace_32 : decode cX4_bestPlace 32 = .ok (.invokevirtual 48, 3) := by decide +kernel
theorem dX4_bestPlace_35 : decode cX4_bestPlace 35 = .ok (.if_icmp .ge 6, 3) := by decide +kernel
theorem dX4_bestPlace_38 : decode cX4_bestPlace 38 = .ok (.iload 4, 2) := by decide +kernel
theorem dX4_bestPlace_40 : decode cX4_bestPlace 40 = .ok (.istore_n 3, 1) := by decide +kernel
theorem dX4_bestPlace_41 : decode cX4_bestPlace 41 = .ok (.iinc 4 1, 3) := by decide +kernel
theorem dX4_bestPlace_44 : decode cX4_bestPlace 44 = .ok (.goto (-39), 3) := by decide +kernel
theorem dX4_bestPlace_47 : decode cX4_bestPlace 47 = .ok (.iload_n 3, 1) := by decide +kernel
theorem dX4_bestPlace_48 : decode cX4_bestPlace 48 = .ok (.ireturn, 1) := by decide +kernel
theorem dX4_countGoodActs_0 : decode cX4_countGoodActs 0 = .ok (.iconst 0, 1) := by decide +kernel
theorem dX4_countGoodActs_1 : decode cX4_countGoodActs 1 = .ok (.istore_n 2, 1) := by decide +kernel
theorem dX4_countGoodActs_2 : decode cX4_countGoodActs 2 = .ok (.iload_n 2, 1) := by decide +kernel
theorem dX4_countGoodActs_3 : decode cX4_countGoodActs 3 = .ok (.bipush 9, 2) := by decide +kernel
theorem dX4_countGoodActs_5 : decode cX4_countGoodActs 5 = .ok (.if_icmp .ge 65, 3) := by decide +kernel
theorem dX4_countGoodActs_8 : decode cX4_countGoodActs 8 = .ok (.aload_n 0, 1) := by decide +kernel
theorem dX4_countGoodActs_9 : decode cX4_countGoodActs 9 = .ok (.getfield 9, 3) := by decide +kernel
theorem dX4_countGoodActs_12 : decode cX4_countGoodActs 12 = .ok (.iload_n 2, 1) := by decide +kernel
theorem dX4_countGoodActs_13 : decode cX4_countGoodActs 13 = .ok (.iconst 0, 1) := by decide +kernel
theorem dX4_countGoodActs_14 : decode cX4_countGoodActs 14 = .ok (.iastore, 1) := by decide +kernel
theorem dX4_countGoodActs_15 : decode cX4_countGoodActs 15 = .ok (.iconst 0, 1) := by decide +kernel
theorem dX4_countGoodActs_16 : decode cX4_countGoodActs 16 = .ok (.istore_n 3, 1) := by decide +kernel
theorem dX4_countGoodActs_17 : decode cX4_countGoodActs 17 = .ok (.iload_n 3, 1) := by decide +kernel
theorem dX4_countGoodActs_18 : decode cX4_countGoodActs 18 = .ok (.iload_n 1, 1) := by decide +kernel
theorem dX4_countGoodActs_19 : decode cX4_countGoodActs 19 = .ok (.if_icmp .ge 45, 3) := by decide +kernel
theorem dX4_countGoodActs_22 : decode cX4_countGoodActs 22 = .ok (.aload_n 0, 1) := by decide +kernel
theorem dX4_countGoodActs_23 : decode cX4_countGoodActs 23 = .ok (.getfield 15, 3) := by decide +kernel
theorem dX4_countGoodActs_26 : decode cX4_countGoodActs 26 = .ok (.getfield 25, 3) := by decide +kernel
theorem dX4_countGoodActs_29 : decode cX4_countGoodActs 29 = .ok (.iload_n 2, 1) := by decide +kernel
theorem dX4_countGoodActs_30 : decode cX4_countGoodActs 30 = .ok (.invokevirtual 29, 3) := by decide +kernel
theorem dX4_countGoodActs_33 : decode cX4_countGoodActs 33 = .ok (.ifCond .eq 31, 3) := by decide +kernel
theorem dX4_countGoodActs_36 : decode cX4_countGoodActs 36 = .ok (.aload_n 0, 1) := by decide +kernel
theorem dX4_countGoodActs_37 : decode cX4_countGoodActs 37 = .ok (.getfield 15, 3) := by decide +kernel
theorem dX4_countGoodActs_40 : decode cX4_countGoodActs 40 = .ok (.iload_n 2, 1) := by decide +kernel
theorem dX4_countGoodActs_41 : decode cX4_countGoodActs 41 = .ok (.iload_n 3, 1) := by decide +kernel
theorem dX4_countGoodActs_42 : decode cX4_countGoodActs 42 = .ok (.invokevirtual 35, 3) := by decide +kernel
theorem dX4_countGoodActs_45 : decode cX4_countGoodActs 45 = .ok (.ifCond .eq 13, 3) := by decide +kernel
theorem dX4_countGoodActs_48 : decode cX4_countGoodActs 48 = .ok (.aload_n 0, 1) := by decide +kernel
theorem dX4_countGoodActs_49 : decode cX4_countGoodActs 49 = .ok (.getfield 9, 3) := by decide +kernel
theorem dX4_countGoodActs_52 : decode cX4_countGoodActs 52 = .ok (.iload_n 2, 1) := by decide +kernel
theorem dX4_countGoodActs_53 : decode cX4_countGoodActs 53 = .ok (.dup2, 1) := by decide +kernel
theorem dX4_countGoodActs_54 : decode cX4_countGoodActs 54 = .ok (.iaload, 1) := by decide +kernel
theorem dX4_countGoodActs_55 : decode cX4_countGoodActs 55 = .ok (.iconst 1, 1) := by decide +kernel
theorem dX4_countGoodActs_56 : decode cX4_countGoodActs 56 = .ok (.iadd, 1) := by decide +kernel
theorem dX4_countGoodActs_57 : decode cX4_countGoodActs 57 = .ok (.iastore, 1) := by decide +kernel
theorem dX4_countGoodActs_58 : decode cX4_countGoodActs 58 = .ok (.iinc 3 1, 3) := by decide +kernel
theorem dX4_countGoodActs_61 : decode cX4_countGoodActs 61 = .ok (.goto (-44), 3) := by decide +kernel
theorem dX4_countGoodActs_64 : decode cX4_countGoodActs 64 = .ok (.iinc 2 1, 3) := by decide +kernel
theorem dX4_countGoodActs_67 : decode cX4_countGoodActs 67 = .ok (.goto (-65), 3) := by decide +kernel
theorem dX4_countGoodActs_70 : decode cX4_countGoodActs 70 = .ok (.return_, 1) := by decide +kernel
theorem dX4_init_0 : decode cX4_init 0 = .ok (.aload_n 0, 1) := by decide +kernel
theorem dX4_init_1 : decode cX4_init 1 = .ok (.invokespecial 3, 3) := by decide +kernel
theorem dX4_init_4 : decode cX4_init 4 = .ok (.aload_n 0, 1) := by decide +kernel
theorem dX4_init_5 : decode cX4_init 5 = .ok (.bipush 9, 2) := by decide +kernel
theorem dX4_init_7 : decode cX4_init 7 = .ok (.newarray .int, 2) := by decide +kernel
theorem dX4_init_9 : decode cX4_init 9 = .ok (.putfield 9, 3) := by decide +kernel
theorem dX4_init_12 : decode cX4_init 12 = .ok (.aload_n 0, 1) := by decide +kernel
theorem dX4_init_13 : decode cX4_init 13 = .ok (.aload_n 1, 1) := by decide +kernel
theorem dX4_init_14 : decode cX4_init 14 = .ok (.putfield 15, 3) := by decide +kernel
theorem dX4_init_17 : decode cX4_init 17 = .ok (.return_, 1) := by decide +kernel
theorem dX4_stepsBlind_0 : decode cX4_stepsBlind 0 = .ok (.aload_n 0, 1) := by decide +kernel
theorem dX4_stepsBlind_1 : decode cX4_stepsBlind 1 = .ok (.getfield 15, 3) := by decide +kernel
theorem dX4_stepsBlind_4 : decode cX4_stepsBlind 4 = .ok (.getfield 25, 3) := by decide +kernel
theorem dX4_stepsBlind_7 : decode cX4_stepsBlind 7 = .ok (.iload_n 2, 1) := by decide +kernel
theorem dX4_stepsBlind_8 : decode cX4_stepsBlind 8 = .ok (.invokevirtual 38, 3) := by decide +kernel
theorem dX4_stepsBlind_11 : decode cX4_stepsBlind 11 = .ok (.ifCond .ne 8, 3) := by decide +kernel
theorem dX4_stepsBlind_14 : decode cX4_stepsBlind 14 = .ok (.iload_n 3, 1) := by decide +kernel
theorem dX4_stepsBlind_15 : decode cX4_stepsBlind 15 = .ok (.bipush 50, 2) := by decide +kernel
theorem dX4_stepsBlind_17 : decode cX4_stepsBlind 17 = .ok (.imul, 1) := by decide +kernel
theorem dX4_stepsBlind_18 : decode cX4_stepsBlind 18 = .ok (.ireturn, 1) := by decide +kernel
theorem dX4_stepsBlind_19 : decode cX4_stepsBlind 19 = .ok (.aload_n 0, 1) := by decide +kernel
theorem dX4_stepsBlind_20 : decode cX4_stepsBlind 20 = .ok (.getfield 9, 3) := by decide +kernel
theorem dX4_stepsBlind_23 : decode cX4_stepsBlind 23 = .ok (.iload_n 2, 1) := by decide +kernel
theorem dX4_stepsBlind_24 : decode cX4_stepsBlind 24 = .ok (.iaload, 1) := by decide +kernel
theorem dX4_stepsBlind_25 : decode cX4_stepsBlind 25 = .ok (.istore 4, 2) := by decide +kernel
theorem dX4_stepsBlind_27 : decode cX4_stepsBlind 27 = .ok (.iload 4, 2) := by decide +kernel
theorem dX4_stepsBlind_29 : decode cX4_stepsBlind 29 = .ok (.aload_n 0, 1) := by decide +kernel
theorem dX4_stepsBlind_30 : decode cX4_stepsBlind 30 = .ok (.getfield 15, 3) := by decide +kernel
theorem dX4_stepsBlind_33 : decode cX4_stepsBlind 33 = .ok (.getfield 25, 3) := by decide +kernel
theorem dX4_stepsBlind_36 : decode cX4_stepsBlind 36 = .ok (.iload_n 1, 1) := by decide +kernel
theorem dX4_stepsBlind_37 : decode cX4_stepsBlind 37 = .ok (.iload_n 2, 1) := by decide +kernel
theorem dX4_stepsBlind_38 : decode cX4_stepsBlind 38 = .ok (.invokevirtual 41, 3) := by decide +kernel
theorem dX4_stepsBlind_41 : decode cX4_stepsBlind 41 = .ok (.imul, 1) := by decide +kernel
theorem dX4_stepsBlind_42 : decode cX4_stepsBlind 42 = .ok (.iload_n 3, 1) := by decide +kernel
theorem dX4_stepsBlind_43 : decode cX4_stepsBlind 43 = .ok (.iload 4, 2) := by decide +kernel
theorem dX4_stepsBlind_45 : decode cX4_stepsBlind 45 = .ok (.isub, 1) := by decide +kernel
theorem dX4_stepsBlind_46 : decode cX4_stepsBlind 46 = .ok (.bipush 50, 2) := by decide +kernel
theorem dX4_stepsBlind_48 : decode cX4_stepsBlind 48 = .ok (.imul, 1) := by decide +kernel
theorem dX4_stepsBlind_49 : decode cX4_stepsBlind 49 = .ok (.iadd, 1) := by decide +kernel
theorem dX4_stepsBlind_50 : decode cX4_stepsBlind 50 = .ok (.ireturn, 1) := by decide +kernel
theorem dX4_stepsKnowing_0 : decode cX4_stepsKnowing 0 = .ok (.iconst 0, 1) := by decide +kernel
theorem dX4_stepsKnowing_1 : decode cX4_stepsKnowing 1 = .ok (.istore_n 3, 1) := by decide +kernel
theorem dX4_stepsKnowing_2 : decode cX4_stepsKnowing 2 = .ok (.iconst 0, 1) := by decide +kernel
theorem dX4_stepsKnowing_3 : decode cX4_stepsKnowing 3 = .ok (.istore 4, 2) := by decide +kernel
theorem dX4_stepsKnowing_5 : decode cX4_stepsKnowing 5 = .ok (.iload 4, 2) := by decide +kernel
theorem dX4_stepsKnowing_7 : decode cX4_stepsKnowing 7 = .ok (.iload_n 2, 1) := by decide +kernel
theorem dX4_stepsKnowing_8 : decode cX4_stepsKnowing 8 = .ok (.if_icmp .ge 37, 3) := by decide +kernel
theorem dX4_stepsKnowing_11 : decode cX4_stepsKnowing 11 = .ok (.aload_n 0, 1) := by decide +kernel
theorem dX4_stepsKnowing_12 : decode cX4_stepsKnowing 12 = .ok (.getfield 15, 3) := by decide +kernel
theorem dX4_stepsKnowing_15 : decode cX4_stepsKnowing 15 = .ok (.iload_n 1, 1) := by decide +kernel
theorem dX4_stepsKnowing_16 : decode cX4_stepsKnowing 16 = .ok (.iload 4, 2) := by decide +kernel
theorem dX4_stepsKnowing_18 : decode cX4_stepsKnowing 18 = .ok (.invokevirtual 19, 3) := by decide +kernel
theorem dX4_stepsKnowing_21 : decode cX4_stepsKnowing 21 = .ok (.istore 5, 2) := by decide +kernel
theorem dX4_stepsKnowing_23 : decode cX4_stepsKnowing 23 = .ok (.iload_n 3, 1) := by decide +kernel
theorem dX4_stepsKnowing_24 : decode cX4_stepsKnowing 24 = .ok (.iload 5, 2) := by decide +kernel
theorem dX4_stepsKnowing_26 : decode cX4_stepsKnowing 26 = .ok (.iconst (-1), 1) := by decide +kernel
theorem dX4_stepsKnowing_27 : decode cX4_stepsKnowing 27 = .ok (.if_icmp .ne 8, 3) := by decide +kernel
theorem dX4_stepsKnowing_30 : decode cX4_stepsKnowing 30 = .ok (.bipush 50, 2) := by decide +kernel
theorem dX4_stepsKnowing_32 : decode cX4_stepsKnowing 32 = .ok (.goto 5, 3) := by decide +kernel
theorem dX4_stepsKnowing_35 : decode cX4_stepsKnowing 35 = .ok (.iload 5, 2) := by decide +kernel
theorem dX4_stepsKnowing_37 : decode cX4_stepsKnowing 37 = .ok (.iadd, 1) := by decide +kernel
theorem dX4_stepsKnowing_38 : decode cX4_stepsKnowing 38 = .ok (.istore_n 3, 1) := by decide +kernel
theorem dX4_stepsKnowing_39 : decode cX4_stepsKnowing 39 = .ok (.iinc 4 1, 3) := by decide +kernel
theorem dX4_stepsKnowing_42 : decode cX4_stepsKnowing 42 = .ok (.goto (-37), 3) := by decide +kernel
theorem dX4_stepsKnowing_45 : decode cX4_stepsKnowing 45 = .ok (.iload_n 3, 1) := by decide +kernel
theorem dX4_stepsKnowing_46 : decode cX4_stepsKnowing 46 = .ok (.ireturn, 1) := by decide +kernel
theorem dX5_clear_0 : decode cX5_clear 0 = .ok (.aload_n 0, 1) := by decide +kernel
theorem dX5_clear_1 : decode cX5_clear 1 = .ok (.iconst 0, 1) := by decide +kernel
theorem dX5_clear_2 : decode cX5_clear 2 = .ok (.putfield 43, 3) := by decide +kernel
theorem dX5_clear_5 : decode cX5_clear 5 = .ok (.aload_n 0, 1) := by decide +kernel
theorem dX5_clear_6 : decode cX5_clear 6 = .ok (.iconst 0, 1) := by decide +kernel
theorem dX5_clear_7 : decode cX5_clear 7 = .ok (.putfield 47, 3) := by decide +kernel
theorem dX5_clear_10 : decode cX5_clear 10 = .ok (.aload_n 0, 1) := by decide +kernel
theorem dX5_clear_11 : decode cX5_clear 11 = .ok (.iconst 0, 1) := by decide +kernel
theorem dX5_clear_12 : decode cX5_clear 12 = .ok (.putfield 50, 3) := by decide +kernel
theorem dX5_clear_15 : decode cX5_clear 15 = .ok (.aload_n 0, 1) := by decide +kernel
theorem dX5_clear_16 : decode cX5_clear 16 = .ok (.iconst 0, 1) := by decide +kernel
theorem dX5_clear_17 : decode cX5_clear 17 = .ok (.putfield 53, 3) := by decide +kernel
theorem dX5_clear_20 : decode cX5_clear 20 = .ok (.aload_n 0, 1) := by decide +kernel
theorem dX5_clear_21 : decode cX5_clear 21 = .ok (.iconst 0, 1) := by decide +kernel
theorem dX5_clear_22 : decode cX5_clear 22 = .ok (.putfield 56, 3) := by decide +kernel
theorem dX5_clear_25 : decode cX5_clear 25 = .ok (.aload_n 0, 1) := by decide +kernel
theorem dX5_clear_26 : decode cX5_clear 26 = .ok (.iconst 0, 1) := by decide +kernel
theorem dX5_clear_27 : decode cX5_clear 27 = .ok (.putfield 59, 3) := by decide +kernel
theorem dX5_clear_30 : decode cX5_clear 30 = .ok (.aload_n 0, 1) := by decide +kernel
theorem dX5_clear_31 : decode cX5_clear 31 = .ok (.lconst 0, 1) := by decide +kernel
theorem dX5_clear_32 : decode cX5_clear 32 = .ok (.putfield 62, 3) := by decide +kernel
theorem dX5_clear_35 : decode cX5_clear 35 = .ok (.aload_n 0, 1) := by decide +kernel
theorem dX5_clear_36 : decode cX5_clear 36 = .ok (.getfield 39, 3) := by decide +kernel
theorem dX5_clear_39 : decode cX5_clear 39 = .ok (.iconst 0, 1) := by decide +kernel
theorem dX5_clear_40 : decode cX5_clear 40 = .ok (.putfield 66, 3) := by decide +kernel
theorem dX5_clear_43 : decode cX5_clear 43 = .ok (.return_, 1) := by decide +kernel
theorem dX5_copyFrom_0 : decode cX5_copyFrom 0 = .ok (.aload_n 0, 1) := by decide +kernel
theorem dX5_copyFrom_1 : decode cX5_copyFrom 1 = .ok (.aload_n 1, 1) := by decide +kernel
theorem dX5_copyFrom_2 : decode cX5_copyFrom 2 = .ok (.getfield 43, 3) := by decide +kernel
theorem dX5_copyFrom_5 : decode cX5_copyFrom 5 = .ok (.putfield 43, 3) := by decide +kernel
theorem dX5_copyFrom_8 : decode cX5_copyFrom 8 = .ok (.aload_n 0, 1) := by decide +kernel
theorem dX5_copyFrom_9 : decode cX5_copyFrom 9 = .ok (.aload_n 1, 1) := by decide +kernel
theorem dX5_copyFrom_10 : decode cX5_copyFrom 10 = .ok (.getfield 47, 3) := by decide +kernel
theorem dX5_copyFrom_13 : decode cX5_copyFrom 13 = .ok (.putfield 47, 3) := by decide +kernel
theorem dX5_copyFrom_16 : decode cX5_copyFrom 16 = .ok (.aload_n 0, 1) := by decide +kernel
theorem dX5_copyFrom_17 : decode cX5_copyFrom 17 = .ok (.aload_n 1, 1) := by decide +kernel
theorem dX5_copyFrom_18 : decode cX5_copyFrom 18 = .ok (.getfield 50, 3) := by decide +kernel
theorem dX5_copyFrom_21 : decode cX5_copyFrom 21 = .ok (.putfield 50, 3) := by decide +kernel
theorem dX5_copyFrom_24 : decode cX5_copyFrom 24 = .ok (.aload_n 0, 1) := by decide +kernel
theorem dX5_copyFrom_25 : decode cX5_copyFrom 25 = .ok (.aload_n 1, 1) := by decide +kernel
theorem dX5_copyFrom_26 : decode cX5_copyFrom 26 = .ok (.getfield 53, 3) := by decide +kernel
theorem dX5_copyFrom_29 : decode cX5_copyFrom 29 = .ok (.putfield 53, 3) := by decide +kernel
theorem dX5_copyFrom_32 : decode cX5_copyFrom 32 = .ok (.aload_n 0, 1) := by decide +kernel
theorem dX5_copyFrom_33 : decode cX5_copyFrom 33 = .ok (.aload_n 1, 1) := by decide +kernel
theorem dX5_copyFrom_34 : decode cX5_copyFrom 34 = .ok (.getfield 56, 3) := by decide +kernel
theorem dX5_copyFrom_37 : decode cX5_copyFrom 37 = .ok (.putfield 56, 3) := by decide +kernel
theorem dX5_copyFrom_40 : decode cX5_copyFrom 40 = .ok (.aload_n 0, 1) := by decide +kernel
theorem dX5_copyFrom_41 : decode cX5_copyFrom 41 = .ok (.aload_n 1, 1) := by decide +kernel
theorem dX5_copyFrom_42 : decode cX5_copyFrom 42 = .ok (.getfield 59, 3) := by decide +kernel
theorem dX5_copyFrom_45 : decode cX5_copyFrom 45 = .ok (.putfield 59, 3) := by decide +kernel
theorem dX5_copyFrom_48 : decode cX5_copyFrom 48 = .ok (.aload_n 0, 1) := by decide +kernel
theorem dX5_copyFrom_49 : decode cX5_copyFrom 49 = .ok (.aload_n 1, 1) := by decide +kernel
theorem dX5_copyFrom_50 : decode cX5_copyFrom 50 = .ok (.getfield 62, 3) := by decide +kernel
theorem dX5_copyFrom_53 : decode cX5_copyFrom 53 = .ok (.putfield 62, 3) := by decide +kernel
theorem dX5_copyFrom_56 : decode cX5_copyFrom 56 = .ok (.aload_n 1, 1) := by decide +kernel
theorem dX5_copyFrom_57 : decode cX5_copyFrom 57 = .ok (.getfield 9, 3) := by decide +kernel
theorem dX5_copyFrom_60 : decode cX5_copyFrom 60 = .ok (.iconst 0, 1) := by decide +kernel
theorem dX5_copyFrom_61 : decode cX5_copyFrom 61 = .ok (.aload_n 0, 1) := by decide +kernel
theorem dX5_copyFrom_62 : decode cX5_copyFrom 62 = .ok (.getfield 9, 3) := by decide +kernel
theorem dX5_copyFrom_65 : decode cX5_copyFrom 65 = .ok (.iconst 0, 1) := by decide +kernel
theorem dX5_copyFrom_66 : decode cX5_copyFrom 66 = .ok (.bipush 9, 2) := by decide +kernel
theorem dX5_copyFrom_68 : decode cX5_copyFrom 68 = .ok (.invokestatic 69, 3) := by decide +kernel
theorem dX5_copyFrom_71 : decode cX5_copyFrom 71 = .ok (.aload_n 1, 1) := by decide +kernel
theorem dX5_copyFrom_72 : decode cX5_copyFrom 72 = .ok (.getfield 15, 3) := by decide +kernel
theorem dX5_copyFrom_75 : decode cX5_copyFrom 75 = .ok (.iconst 0, 1) := by decide +kernel
theorem dX5_copyFrom_76 : decode cX5_copyFrom 76 = .ok (.aload_n 0, 1) := by decide +kernel
theorem dX5_copyFrom_77 : decode cX5_copyFrom 77 = .ok (.getfield 15, 3) := by decide +kernel
theorem dX5_copyFrom_80 : decode cX5_copyFrom 80 = .ok (.iconst 0, 1) := by decide +kernel
theorem dX5_copyFrom_81 : decode cX5_copyFrom 81 = .ok (.bipush 9, 2) := by decide +kernel
theorem dX5_copyFrom_83 : decode cX5_copyFrom 83 = .ok (.invokestatic 69, 3) := by decide +kernel
theorem dX5_copyFrom_86 : decode cX5_copyFrom 86 = .ok (.aload_n 1, 1) := by decide +kernel
theorem dX5_copyFrom_87 : decode cX5_copyFrom 87 = .ok (.getfield 18, 3) := by decide +kernel
theorem dX5_copyFrom_90 : decode cX5_copyFrom 90 = .ok (.iconst 0, 1) := by decide +kernel
theorem dX5_copyFrom_91 : decode cX5_copyFrom 91 = .ok (.aload_n 0, 1) := by decide +kernel
theorem dX5_copyFrom_92 : decode cX5_copyFrom 92 = .ok (.getfield 18, 3) := by decide +kernel
theorem dX5_copyFrom_95 : decode cX5_copyFrom 95 = .ok (.iconst 0, 1) := by decide +kernel
theorem dX5_copyFrom_96 : decode cX5_copyFrom 96 = .ok (.bipush 9, 2) := by decide +kernel
theorem dX5_copyFrom_98 : decode cX5_copyFrom 98 = .ok (.invokestatic 69, 3) := by decide +kernel
theorem dX5_copyFrom_101 : decode cX5_copyFrom 101 = .ok (.aload_n 1, 1) := by decide +kernel
theorem dX5_copyFrom_102 : decode cX5_copyFrom 102 = .ok (.getfield 21, 3) := by decide +kernel
theorem dX5_copyFrom_105 : decode cX5_copyFrom 105 = .ok (.iconst 0, 1) := by decide +kernel
theorem dX5_copyFrom_106 : decode cX5_copyFrom 106 = .ok (.aload_n 0, 1) := by decide +kernel
theorem dX5_copyFrom_107 : decode cX5_copyFrom 107 = .ok (.getfield 21, 3) := by decide +kernel
theorem dX5_copyFrom_110 : decode cX5_copyFrom 110 = .ok (.iconst 0, 1) := by decide +kernel
theorem dX5_copyFrom_111 : decode cX5_copyFrom 111 = .ok (.bipush 9, 2) := by decide +kernel
theorem dX5_copyFrom_113 : decode cX5_copyFrom 113 = .ok (.invokestatic 69, 3) := by decide +kernel
theorem dX5_copyFrom_116 : decode cX5_copyFrom 116 = .ok (.aload_n 1, 1) := by decide +kernel
theorem dX5_copyFrom_117 : decode cX5_copyFrom 117 = .ok (.getfield 24, 3) := by decide +kernel
theorem dX5_copyFrom_120 : decode cX5_copyFrom 120 = .ok (.iconst 0, 1) := by decide +kernel
theorem dX5_copyFrom_121 : decode cX5_copyFrom 121 = .ok (.aload_n 0, 1) := by decide +kernel
theorem dX5_copyFrom_122 : decode cX5_copyFrom 122 = .ok (.getfield 24, 3) := by decide +kernel
theorem dX5_copyFrom_125 : decode cX5_copyFrom 125 = .ok (.iconst 0, 1) := by decide +kernel
theorem dX5_copyFrom_126 : decode cX5_copyFrom 126 = .ok (.bipush 7, 2) := by decide +kernel
theorem dX5_copyFrom_128 : decode cX5_copyFrom 128 = .ok (.invokestatic 69, 3) := by decide +kernel
theorem dX5_copyFrom_131 : decode cX5_copyFrom 131 = .ok (.aload_n 1, 1) := by decide +kernel
theorem dX5_copyFrom_132 : decode cX5_copyFrom 132 = .ok (.getfield 27, 3) := by decide +kernel
theorem dX5_copyFrom_135 : decode cX5_copyFrom 135 = .ok (.iconst 0, 1) := by decide +kernel
theorem dX5_copyFrom_136 : decode cX5_copyFrom 136 = .ok (.aload_n 0, 1) := by decide +kernel
theorem dX5_copyFrom_137 : decode cX5_copyFrom 137 = .ok (.getfield 27, 3) := by decide +kernel
theorem dX5_copyFrom_140 : decode cX5_copyFrom 140 = .ok (.iconst 0, 1) := by decide +kernel
theorem dX5_copyFrom_141 : decode cX5_copyFrom 141 = .ok (.bipush 7, 2) := by decide +kernel
theorem dX5_copyFrom_143 : decode cX5_copyFrom 143 = .ok (.invokestatic 69, 3) := by decide +kernel
theorem dX5_copyFrom_146 : decode cX5_copyFrom 146 = .ok (.aload_n 1, 1) := by decide +kernel
theorem dX5_copyFrom_147 : decode cX5_copyFrom 147 = .ok (.getfield 30, 3) := by decide +kernel
theorem dX5_copyFrom_150 : decode cX5_copyFrom 150 = .ok (.iconst 0, 1) := by decide +kernel
theorem dX5_copyFrom_151 : decode cX5_copyFrom 151 = .ok (.aload_n 0, 1) := by decide +kernel
theorem dX5_copyFrom_152 : decode cX5_copyFrom 152 = .ok (.getfield 30, 3) := by decide +kernel
theorem dX5_copyFrom_155 : decode cX5_copyFrom 155 = .ok (.iconst 0, 1) := by decide +kernel
theorem dX5_copyFrom_156 : decode cX5_copyFrom 156 = .ok (.bipush 7, 2) := by decide +kernel
theorem dX5_copyFrom_158 : decode cX5_copyFrom 158 = .ok (.invokestatic 69, 3) := by decide +kernel
theorem dX5_copyFrom_161 : decode cX5_copyFrom 161 = .ok (.aload_n 1, 1) := by decide +kernel
theorem dX5_copyFrom_162 : decode cX5_copyFrom 162 = .ok (.getfield 33, 3) := by decide +kernel
theorem dX5_copyFrom_165 : decode cX5_copyFrom 165 = .ok (.iconst 0, 1) := by decide +kernel
theorem dX5_copyFrom_166 : decode cX5_copyFrom 166 = .ok (.aload_n 0, 1) := by decide +kernel
theorem dX5_copyFrom_167 : decode cX5_copyFrom 167 = .ok (.getfield 33, 3) := by decide +kernel
theorem dX5_copyFrom_170 : decode cX5_copyFrom 170 = .ok (.iconst 0, 1) := by decide +kernel
theorem dX5_copyFrom_171 : decode cX5_copyFrom 171 = .ok (.bipush 7, 2) := by decide +kernel
theorem dX5_copyFrom_173 : decode cX5_copyFrom 173 = .ok (.invokestatic 69, 3) := by decide +kernel
theorem dX5_copyFrom_176 : decode cX5_copyFrom 176 = .ok (.aload_n 0, 1) := by decide +kernel
theorem dX5_copyFrom_177 : decode cX5_copyFrom 177 = .ok (.getfield 39, 3) := by decide +kernel
theorem dX5_copyFrom_180 : decode cX5_copyFrom 180 = .ok (.aload_n 1, 1) := by decide +kernel
theorem dX5_copyFrom_181 : decode cX5_copyFrom 181 = .ok (.getfield 39, 3) := by decide +kernel
theorem dX5_copyFrom_184 : decode cX5_copyFrom 184 = .ok (.invokevirtual 75, 3) := by decide +kernel
theorem dX5_copyFrom_187 : decode cX5_copyFrom 187 = .ok (.return_, 1) := by decide +kernel
theorem dX5_hasExit_0 : decode cX5_hasExit 0 = .ok (.iload_n 1, 1) := by decide +kernel
theorem dX5_hasExit_1 : decode cX5_hasExit 1 = .ok (.ifCond .lt 21, 3) := by decide +kernel
theorem dX5_hasExit_4 : decode cX5_hasExit 4 = .ok (.iload_n 1, 1) := by decide +kernel
theorem dX5_hasExit_5 : decode cX5_hasExit 5 = .ok (.aload_n 0, 1) := by decide +kernel
theorem dX5_hasExit_6 : decode cX5_hasExit 6 = .ok (.getfield 59, 3) := by decide +kernel
theorem dX5_hasExit_9 : decode cX5_hasExit 9 = .ok (.if_icmp .ge 13, 3) := by decide +kernel
theorem dX5_hasExit_12 : decode cX5_hasExit 12 = .ok (.iload_n 1, 1) := by decide +kernel
theorem dX5_hasExit_13 : decode cX5_hasExit 13 = .ok (.bipush 7, 2) := by decide +kernel
theorem dX5_hasExit_15 : decode cX5_hasExit 15 = .ok (.if_icmp .ge 7, 3) := by decide +kernel
theorem dX5_hasExit_18 : decode cX5_hasExit 18 = .ok (.iconst 1, 1) := by decide +kernel
theorem dX5_hasExit_19 : decode cX5_hasExit 19 = .ok (.goto 4, 3) := by decide +kernel
theorem dX5_hasExit_22 : decode cX5_hasExit 22 = .ok (.iconst 0, 1) := by decide +kernel
theorem dX5_hasExit_23 : decode cX5_hasExit 23 = .ok (.ireturn, 1) := by decide +kernel
theorem dX5_hasExitAt_0 : decode cX5_hasExitAt 0 = .ok (.iconst 0, 1) := by decide +kernel
theorem dX5_hasExitAt_1 : decode cX5_hasExitAt 1 = .ok (.istore_n 2, 1) := by decide +kernel
theorem dX5_hasExitAt_2 : decode cX5_hasExitAt 2 = .ok (.iload_n 2, 1) := by decide +kernel
theorem dX5_hasExitAt_3 : decode cX5_hasExitAt 3 = .ok (.aload_n 0, 1) := by decide +kernel
theorem dX5_hasExitAt_4 : decode cX5_hasExitAt 4 = .ok (.getfield 59, 3) := by decide +kernel
theorem dX5_hasExitAt_7 : decode cX5_hasExitAt 7 = .ok (.if_icmp .ge 27, 3) := by decide +kernel
theorem dX5_hasExitAt_10 : decode cX5_hasExitAt 10 = .ok (.iload_n 2, 1) := by decide +kernel
theorem dX5_hasExitAt_11 : decode cX5_hasExitAt 11 = .ok (.bipush 7, 2) := by decide +kernel
theorem dX5_hasExitAt_13 : decode cX5_hasExitAt 13 = .ok (.if_icmp .ge 21, 3) := by decide +kernel
theorem dX5_hasExitAt_16 : decode cX5_hasExitAt 16 = .ok (.aload_n 0, 1) := by decide +kernel
theorem dX5_hasExitAt_17 : decode cX5_hasExitAt 17 = .ok (.getfield 24, 3) := by decide +kernel
theorem dX5_hasExitAt_20 : decode cX5_hasExitAt 20 = .ok (.iload_n 2, 1) := by decide +kernel
theorem dX5_hasExitAt_21 : decode cX5_hasExitAt 21 = .ok (.iaload, 1) := by decide +kernel
theorem dX5_hasExitAt_22 : decode cX5_hasExitAt 22 = .ok (.iload_n 1, 1) := by decide +kernel
theorem dX5_hasExitAt_23 : decode cX5_hasExitAt 23 = .ok (.if_icmp .ne 5, 3) := by decide +kernel
theorem dX5_hasExitAt_26 : decode cX5_hasExitAt 26 = .ok (.iconst 1, 1) := by decide +kernel
theorem dX5_hasExitAt_27 : decode cX5_hasExitAt 27 = .ok (.ireturn, 1) := by decide +kernel
theorem dX5_hasExitAt_28 : decode cX5_hasExitAt 28 = .ok (.iinc 2 1, 3) := by decide +kernel
theorem dX5_hasExitAt_31 : decode cX5_hasExitAt 31 = .ok (.goto (-29), 3) := by decide +kernel
theorem dX5_hasExitAt_34 : decode cX5_hasExitAt 34 = .ok (.iconst 0, 1) := by decide +kernel
theorem dX5_hasExitAt_35 : decode cX5_hasExitAt 35 = .ok (.ireturn, 1) := by decide +kernel
theorem dX5_hasPlace_0 : decode cX5_hasPlace 0 = .ok (.iload_n 1, 1) := by decide +kernel
theorem dX5_hasPlace_1 : decode cX5_hasPlace 1 = .ok (.ifCond .lt 21, 3) := by decide +kernel
theorem dX5_hasPlace_4 : decode cX5_hasPlace 4 = .ok (.iload_n 1, 1) := by decide +kernel
theorem dX5_hasPlace_5 : decode cX5_hasPlace 5 = .ok (.aload_n 0, 1) := by decide +kernel
theorem dX5_hasPlace_6 : decode cX5_hasPlace 6 = .ok (.getfield 56, 3) := by decide +kernel
theorem dX5_hasPlace_9 : decode cX5_hasPlace 9 = .ok (.if_icmp .ge 13, 3) := by decide +kernel
theorem dX5_hasPlace_12 : decode cX5_hasPlace 12 = .ok (.iload_n 1, 1) := by decide +kernel
theorem dX5_hasPlace_13 : decode cX5_hasPlace 13 = .ok (.bipush 9, 2) := by decide +kernel
theorem dX5_hasPlace_15 : decode cX5_hasPlace 15 = .ok (.if_icmp .ge 7, 3) := by decide +kernel
theorem dX5_hasPlace_18 : decode cX5_hasPlace 18 = .ok (.iconst 1, 1) := by decide +kernel
theorem dX5_hasPlace_19 : decode cX5_hasPlace 19 = .ok (.goto 4, 3) := by decide +kernel
theorem dX5_hasPlace_22 : decode cX5_hasPlace 22 = .ok (.iconst 0, 1) := by decide +kernel
theorem dX5_hasPlace_23 : decode cX5_hasPlace 23 = .ok (.ireturn, 1) := by decide +kernel
theorem dX5_hasPlaceLike_0 : decode cX5_hasPlaceLike 0 = .ok (.iconst 0, 1) := by decide +kernel
theorem dX5_hasPlaceLike_1 : decode cX5_hasPlaceLike 1 = .ok (.istore_n 2, 1) := by decide +kernel
theorem dX5_hasPlaceLike_2 : decode cX5_hasPlaceLike 2 = .ok (.iload_n 2, 1) := by decide +kernel
theorem dX5_hasPlaceLike_3 : decode cX5_hasPlaceLike 3 = .ok (.iload_n 1, 1) := by decide +kernel
theorem dX5_hasPlaceLike_4 : decode cX5_hasPlaceLike 4 = .ok (.if_icmp .ge 53, 3) := by decide +kernel
theorem dX5_hasPlaceLike_7 : decode cX5_hasPlaceLike 7 = .ok (.iload_n 2, 1) := by decide +kernel
theorem dX5_hasPlaceLike_8 : decode cX5_hasPlaceLike 8 = .ok (.bipush 9, 2) := by decide +kernel
theorem dX5_hasPlaceLike_10 : decode cX5_hasPlaceLike 10 = .ok (.if_icmp .ge 47, 3) := by decide +kernel
theorem dX5_hasPlaceLike_13 : decode cX5_hasPlaceLike 13 = .ok (.iload_n 1, 1) := by decide +kernel
theorem dX5_hasPlaceLike_14 : decode cX5_hasPlaceLike 14 = .ok (.bipush 9, 2) := by decide +kernel
theorem dX5_hasPlaceLike_16 : decode cX5_hasPlaceLike 16 = .ok (.if_icmp .ge 41, 3) := by decide +kernel
theorem dX5_hasPlaceLike_19 : decode cX5_hasPlaceLike 19 = .ok (.aload_n 0, 1) := by decide +kernel
theorem dX5_hasPlaceLike_20 : decode cX5_hasPlaceLike 20 = .ok (.getfield 9, 3) := by decide +kernel
theorem dX5_hasPlaceLike_23 : decode cX5_hasPlaceLike 23 = .ok (.iload_n 2, 1) := by decide +kernel
theorem dX5_hasPlaceLike_24 : decode cX5_hasPlaceLike 24 = .ok (.iaload, 1) := by decide +kernel
theorem dX5_hasPlaceLike_25 : decode cX5_hasPlaceLike 25 = .ok (.aload_n 0, 1) := by decide +kernel
theorem dX5_hasPlaceLike_26 : decode cX5_hasPlaceLike 26 = .ok (.getfield 9, 3) := by decide +kernel
theorem dX5_hasPlaceLike_29 : decode cX5_hasPlaceLike 29 = .ok (.iload_n 1, 1) := by decide +kernel
theorem dX5_hasPlaceLike_30 : decode cX5_hasPlaceLike 30 = .ok (.iaload, 1) := by decide +kernel
theorem dX5_hasPlaceLike_31 : decode cX5_hasPlaceLike 31 = .ok (.if_icmp .ne 20, 3) := by decide +kernel
theorem dX5_hasPlaceLike_34 : decode cX5_hasPlaceLike 34 = .ok (.aload_n 0, 1) := by decide +kernel
theorem dX5_hasPlaceLike_35 : decode cX5_hasPlaceLike 35 = .ok (.getfield 15, 3) := by decide +kernel
theorem dX5_hasPlaceLike_38 : decode cX5_hasPlaceLike 38 = .ok (.iload_n 2, 1) := by decide +kernel
theorem dX5_hasPlaceLike_39 : decode cX5_hasPlaceLike 39 = .ok (.iaload, 1) := by decide +kernel
theorem dX5_hasPlaceLike_40 : decode cX5_hasPlaceLike 40 = .ok (.aload_n 0, 1) := by decide +kernel
theorem dX5_hasPlaceLike_41 : decode cX5_hasPlaceLike 41 = .ok (.getfield 15, 3) := by decide +kernel
theorem dX5_hasPlaceLike_44 : decode cX5_hasPlaceLike 44 = .ok (.iload_n 1, 1) := by decide +kernel
theorem dX5_hasPlaceLike_45 : decode cX5_hasPlaceLike 45 = .ok (.iaload, 1) := by decide +kernel
theorem dX5_hasPlaceLike_46 : decode cX5_hasPlaceLike 46 = .ok (.if_icmp .ne 5, 3) := by decide +kernel
theorem dX5_hasPlaceLike_49 : decode cX5_hasPlaceLike 49 = .ok (.iconst 1, 1) := by decide +kernel
theorem dX5_hasPlaceLike_50 : decode cX5_hasPlaceLike 50 = .ok (.ireturn, 1) := by decide +kernel
theorem dX5_hasPlaceLike_51 : decode cX5_hasPlaceLike 51 = .ok (.iinc 2 1, 3) := by decide +kernel
theorem dX5_hasPlaceLike_54 : decode cX5_hasPlaceLike 54 = .ok (.goto (-52), 3) := by decide +kernel
theorem dX5_hasPlaceLike_57 : decode cX5_hasPlaceLike 57 = .ok (.iconst 0, 1) := by decide +kernel
theorem dX5_hasPlaceLike_58 : decode cX5_hasPlaceLike 58 = .ok (.ireturn, 1) := by decide +kernel
theorem dX5_hasSeat_0 : decode cX5_hasSeat 0 = .ok (.iload_n 1, 1) := by decide +kernel
theorem dX5_hasSeat_1 : decode cX5_hasSeat 1 = .ok (.ifCond .lt 27, 3) := by decide +kernel
theorem dX5_hasSeat_4 : decode cX5_hasSeat 4 = .ok (.iload_n 1, 1) := by decide +kernel
theorem dX5_hasSeat_5 : decode cX5_hasSeat 5 = .ok (.aload_n 0, 1) := by decide +kernel
theorem dX5_hasSeat_6 : decode cX5_hasSeat 6 = .ok (.getfield 47, 3) := by decide +kernel
theorem dX5_hasSeat_9 : decode cX5_hasSeat 9 = .ok (.if_icmp .ge 19, 3) := by decide +kernel
theorem dX5_hasSeat_12 : decode cX5_hasSeat 12 = .ok (.iload_n 2, 1) := by decide +kernel
theorem dX5_hasSeat_13 : decode cX5_hasSeat 13 = .ok (.ifCond .lt 15, 3) := by decide +kernel
theorem dX5_hasSeat_16 : decode cX5_hasSeat 16 = .ok (.iload_n 2, 1) := by decide +kernel
theorem dX5_hasSeat_17 : decode cX5_hasSeat 17 = .ok (.aload_n 0, 1) := by decide +kernel
theorem dX5_hasSeat_18 : decode cX5_hasSeat 18 = .ok (.getfield 50, 3) := by decide +kernel
theorem dX5_hasSeat_21 : decode cX5_hasSeat 21 = .ok (.if_icmp .ge 7, 3) := by decide +kernel
theorem dX5_hasSeat_24 : decode cX5_hasSeat 24 = .ok (.iconst 1, 1) := by decide +kernel
theorem dX5_hasSeat_25 : decode cX5_hasSeat 25 = .ok (.goto 4, 3) := by decide +kernel
theorem dX5_hasSeat_28 : decode cX5_hasSeat 28 = .ok (.iconst 0, 1) := by decide +kernel
theorem dX5_hasSeat_29 : decode cX5_hasSeat 29 = .ok (.ireturn, 1) := by decide +kernel
theorem dX5_init_0 : decode cX5_init 0 = .ok (.aload_n 0, 1) := by decide +kernel
theorem dX5_init_1 : decode cX5_init 1 = .ok (.invokespecial 3, 3) := by decide +kernel
theorem dX5_init_4 : decode cX5_init 4 = .ok (.aload_n 0, 1) := by decide +kernel
theorem dX5_init_5 : decode cX5_init 5 = .ok (.bipush 9, 2) := by decide +kernel
theorem dX5_init_7 : decode cX5_init 7 = .ok (.newarray .int, 2) := by decide +kernel
theorem dX5_init_9 : decode cX5_init 9 = .ok (.putfield 9, 3) := by decide +kernel
theorem dX5_init_12 : decode cX5_init 12 = .ok (.aload_n 0, 1) := by decide +kernel
theorem dX5_init_13 : decode cX5_init 13 = .ok (.bipush 9, 2) := by decide +kernel
theorem dX5_init_15 : decode cX5_init 15 = .ok (.newarray .int, 2) := by decide +kernel
theorem dX5_init_17 : decode cX5_init 17 = .ok (.putfield 15, 3) := by decide +kernel
theorem dX5_init_20 : decode cX5_init 20 = .ok (.aload_n 0, 1) := by decide +kernel
theorem dX5_init_21 : decode cX5_init 21 = .ok (.bipush 9, 2) := by decide +kernel
theorem dX5_init_23 : decode cX5_init 23 = .ok (.newarray .int, 2) := by decide +kernel
theorem dX5_init_25 : decode cX5_init 25 = .ok (.putfield 18, 3) := by decide +kernel
theorem dX5_init_28 : decode cX5_init 28 = .ok (.aload_n 0, 1) := by decide +kernel
theorem dX5_init_29 : decode cX5_init 29 = .ok (.bipush 9, 2) := by decide +kernel
theorem dX5_init_31 : decode cX5_init 31 = .ok (.newarray .int, 2) := by decide +kernel
theorem dX5_init_33 : decode cX5_init 33 = .ok (.putfield 21, 3) := by decide +kernel
theorem dX5_init_36 : decode cX5_init 36 = .ok (.aload_n 0, 1) := by decide +kernel
theorem dX5_init_37 : decode cX5_init 37 = .ok (.bipush 7, 2) := by decide +kernel
theorem dX5_init_39 : decode cX5_init 39 = .ok (.newarray .int, 2) := by decide +kernel
theorem dX5_init_41 : decode cX5_init 41 = .ok (.putfield 24, 3) := by decide +kernel
theorem dX5_init_44 : decode cX5_init 44 = .ok (.aload_n 0, 1) := by decide +kernel
theorem dX5_init_45 : decode cX5_init 45 = .ok (.bipush 7, 2) := by decide +kernel
theorem dX5_init_47 : decode cX5_init 47 = .ok (.newarray .int, 2) := by decide +kernel
theorem dX5_init_49 : decode cX5_init 49 = .ok (.putfield 27, 3) := by decide +kernel
theorem dX5_init_52 : decode cX5_init 52 = .ok (.aload_n 0, 1) := by decide +kernel
theorem dX5_init_53 : decode cX5_init 53 = .ok (.bipush 7, 2) := by decide +kernel
theorem dX5_init_55 : decode cX5_init 55 = .ok (.newarray .int, 2) := by decide +kernel
theorem dX5_init_57 : decode cX5_init 57 = .ok (.putfield 30, 3) := by decide +kernel
theorem dX5_init_60 : decode cX5_init 60 = .ok (.aload_n 0, 1) := by decide +kernel
theorem dX5_init_61 : decode cX5_init 61 = .ok (.bipush 7, 2) := by decide +kernel
theorem dX5_init_63 : decode cX5_init 63 = .ok (.newarray .int, 2) := by decide +kernel
theorem dX5_init_65 : decode cX5_init 65 = .ok (.putfield 33, 3) := by decide +kernel
theorem dX5_init_68 : decode cX5_init 68 = .ok (.aload_n 0, 1) := by decide +kernel
theorem dX5_init_69 : decode cX5_init 69 = .ok (.new 36, 3) := by decide +kernel
theorem dX5_init_72 : decode cX5_init 72 = .ok (.dup, 1) := by decide +kernel
theorem dX5_init_73 : decode cX5_init 73 = .ok (.invokespecial 38, 3) := by decide +kernel
theorem dX5_init_76 : decode cX5_init 76 = .ok (.putfield 39, 3) := by decide +kernel
theorem dX5_init_79 : decode cX5_init 79 = .ok (.return_, 1) := by decide +kernel
theorem dX5_isGood_0 : decode cX5_isGood 0 = .ok (.aload_n 0, 1) := by decide +kernel
theorem dX5_isGood_1 : decode cX5_isGood 1 = .ok (.iload_n 1, 1) := by decide +kernel
theorem dX5_isGood_2 : decode cX5_isGood 2 = .ok (.invokevirtual 85, 3) := by decide +kernel
theorem dX5_isGood_5 : decode cX5_isGood 5 = .ok (.ifCond .eq 26, 3) := by decide +kernel
theorem dX5_isGood_8 : decode cX5_isGood 8 = .ok (.aload_n 0, 1) := by decide +kernel
theorem dX5_isGood_9 : decode cX5_isGood 9 = .ok (.getfield 18, 3) := by decide +kernel
theorem dX5_isGood_12 : decode cX5_isGood 12 = .ok (.iload_n 1, 1) := by decide +kernel
theorem dX5_isGood_13 : decode cX5_isGood 13 = .ok (.iaload, 1) := by decide +kernel
theorem dX5_isGood_14 : decode cX5_isGood 14 = .ok (.ifCond .eq 13, 3) := by decide +kernel
theorem dX5_isGood_17 : decode cX5_isGood 17 = .ok (.aload_n 0, 1) := by decide +kernel
theorem dX5_isGood_18 : decode cX5_isGood 18 = .ok (.getfield 18, 3) := by decide +kernel
theorem dX5_isGood_21 : decode cX5_isGood 21 = .ok (.iload_n 1, 1) := by decide +kernel
theorem dX5_isGood_22 : decode cX5_isGood 22 = .ok (.iaload, 1) := by decide +kernel
theorem dX5_isGood_23 : decode cX5_isGood 23 = .ok (.iconst 4, 1) := by decide +kernel
theorem dX5_isGood_24 : decode cX5_isGood 24 = .ok (.if_icmp .ne 7, 3) := by decide +kernel
theorem dX5_isGood_27 : decode cX5_isGood 27 = .ok (.iconst 1, 1) := by decide +kernel
theorem dX5_isGood_28 : decode cX5_isGood 28 = .ok (.goto 4, 3) := by decide +kernel
theorem dX5_isGood_31 : decode cX5_isGood 31 = .ok (.iconst 0, 1) := by decide +kernel
theorem dX5_isGood_32 : decode cX5_isGood 32 = .ok (.ireturn, 1) := by decide +kernel
theorem dX5_isKings_0 : decode cX5_isKings 0 = .ok (.aload_n 0, 1) := by decide +kernel
theorem dX5_isKings_1 : decode cX5_isKings 1 = .ok (.iload_n 1, 1) := by decide +kernel
theorem dX5_isKings_2 : decode cX5_isKings 2 = .ok (.invokevirtual 99, 3) := by decide +kernel
theorem dX5_isKings_5 : decode cX5_isKings 5 = .ok (.ifCond .eq 37, 3) := by decide +kernel
theorem dX5_isKings_8 : decode cX5_isKings 8 = .ok (.aload_n 0, 1) := by decide +kernel
theorem dX5_isKings_9 : decode cX5_isKings 9 = .ok (.getfield 30, 3) := by decide +kernel
theorem dX5_isKings_12 : decode cX5_isKings 12 = .ok (.iload_n 1, 1) := by decide +kernel
theorem dX5_isKings_13 : decode cX5_isKings 13 = .ok (.iaload, 1) := by decide +kernel
theorem dX5_isKings_14 : decode cX5_isKings 14 = .ok (.iconst (-1), 1) := by decide +kernel
theorem dX5_isKings_15 : decode cX5_isKings 15 = .ok (.if_icmp .eq 27, 3) := by decide +kernel
theorem dX5_isKings_18 : decode cX5_isKings 18 = .ok (.aload_n 0, 1) := by decide +kernel
theorem dX5_isKings_19 : decode cX5_isKings 19 = .ok (.getfield 30, 3) := by decide +kernel
theorem dX5_isKings_22 : decode cX5_isKings 22 = .ok (.iload_n 1, 1) := by decide +kernel
theorem dX5_isKings_23 : decode cX5_isKings 23 = .ok (.iaload, 1) := by decide +kernel
theorem dX5_isKings_24 : decode cX5_isKings 24 = .ok (.iload_n 2, 1) := by decide +kernel
theorem dX5_isKings_25 : decode cX5_isKings 25 = .ok (.if_icmp .gt 17, 3) := by decide +kernel
theorem dX5_isKings_28 : decode cX5_isKings 28 = .ok (.iload_n 2, 1) := by decide +kernel
theorem dX5_isKings_29 : decode cX5_isKings 29 = .ok (.aload_n 0, 1) := by decide +kernel
theorem dX5_isKings_30 : decode cX5_isKings 30 = .ok (.getfield 33, 3) := by decide +kernel
theorem dX5_isKings_33 : decode cX5_isKings 33 = .ok (.iload_n 1, 1) := by decide +kernel
theorem dX5_isKings_34 : decode cX5_isKings 34 = .ok (.iaload, 1) := by decide +kernel
theorem dX5_isKings_35 : decode cX5_isKings 35 = .ok (.if_icmp .gt 7, 3) := by decide +kernel
theorem dX5_isKings_38 : decode cX5_isKings 38 = .ok (.iconst 1, 1) := by decide +kernel
theorem dX5_isKings_39 : decode cX5_isKings 39 = .ok (.goto 4, 3) := by decide +kernel
theorem dX5_isKings_42 : decode cX5_isKings 42 = .ok (.iconst 0, 1) := by decide +kernel
theorem dX5_isKings_43 : decode cX5_isKings 43 = .ok (.ireturn, 1) := by decide +kernel
theorem dX5_isTaken_0 : decode cX5_isTaken 0 = .ok (.aload_n 0, 1) := by decide +kernel
theorem dX5_isTaken_1 : decode cX5_isTaken 1 = .ok (.getfield 62, 3) := by decide +kernel
theorem dX5_isTaken_4 : decode cX5_isTaken 4 = .ok (.iload_n 1, 1) := by decide +kernel
theorem dX5_isTaken_5 : decode cX5_isTaken 5 = .ok (.invokestatic 79, 3) := by decide +kernel
theorem dX5_isTaken_8 : decode cX5_isTaken 8 = .ok (.land, 1) := by decide +kernel
theorem dX5_isTaken_9 : decode cX5_isTaken 9 = .ok (.lconst 0, 1) := by decide +kernel
theorem dX5_isTaken_10 : decode cX5_isTaken 10 = .ok (.lcmp, 1) := by decide +kernel
theorem dX5_isTaken_11 : decode cX5_isTaken 11 = .ok (.ifCond .eq 7, 3) := by decide +kernel
theorem dX5_isTaken_14 : decode cX5_isTaken 14 = .ok (.iconst 1, 1) := by decide +kernel
theorem dX5_isTaken_15 : decode cX5_isTaken 15 = .ok (.goto 4, 3) := by decide +kernel
theorem dX5_isTaken_18 : decode cX5_isTaken 18 = .ok (.iconst 0, 1) := by decide +kernel
theorem dX5_isTaken_19 : decode cX5_isTaken 19 = .ok (.ireturn, 1) := by decide +kernel
theorem dX5_isTold_0 : decode cX5_isTold 0 = .ok (.aload_n 0, 1) := by decide +kernel
theorem dX5_isTold_1 : decode cX5_isTold 1 = .ok (.getfield 43, 3) := by decide +kernel
theorem dX5_isTold_4 : decode cX5_isTold 4 = .ok (.ifCond .le 7, 3) := by decide +kernel
theorem dX5_isTold_7 : decode cX5_isTold 7 = .ok (.iconst 1, 1) := by decide +kernel
theorem dX5_isTold_8 : decode cX5_isTold 8 = .ok (.goto 4, 3) := by decide +kernel
theorem dX5_isTold_11 : decode cX5_isTold 11 = .ok (.iconst 0, 1) := by decide +kernel
theorem dX5_isTold_12 : decode cX5_isTold 12 = .ok (.ireturn, 1) := by decide +kernel
theorem dX5_placeAfter_0 : decode cX5_placeAfter 0 = .ok (.iload_n 1, 1) := by decide +kernel
theorem dX5_placeAfter_1 : decode cX5_placeAfter 1 = .ok (.istore_n 3, 1) := by decide +kernel
theorem dX5_placeAfter_2 : decode cX5_placeAfter 2 = .ok (.iconst 0, 1) := by decide +kernel
theorem dX5_placeAfter_3 : decode cX5_placeAfter 3 = .ok (.istore 4, 2) := by decide +kernel
theorem dX5_placeAfter_5 : decode cX5_placeAfter 5 = .ok (.iload 4, 2) := by decide +kernel
theorem dX5_placeAfter_7 : decode cX5_placeAfter 7 = .ok (.bipush 9, 2) := by decide +kernel
theorem dX5_placeAfter_9 : decode cX5_placeAfter 9 = .ok (.if_icmp .ge 43, 3) := by decide +kernel
theorem dX5_placeAfter_12 : decode cX5_placeAfter 12 = .ok (.aload_n 0, 1) := by decide +kernel
theorem dX5_placeAfter_13 : decode cX5_placeAfter 13 = .ok (.iload_n 3, 1) := by decide +kernel
theorem dX5_placeAfter_14 : decode cX5_placeAfter 14 = .ok (.invokevirtual 85, 3) := by decide +kernel
theorem dX5_placeAfter_17 : decode cX5_placeAfter 17 = .ok (.ifCond .eq 35, 3) := by decide +kernel
theorem dX5_placeAfter_20 : decode cX5_placeAfter 20 = .ok (.aload_n 0, 1) := by decide +kernel
theorem dX5_placeAfter_21 : decode cX5_placeAfter 21 = .ok (.getfield 21, 3) := by decide +kernel
theorem dX5_placeAfter_24 : decode cX5_placeAfter 24 = .ok (.iload_n 3, 1) := by decide +kernel
theorem dX5_placeAfter_25 : decode cX5_placeAfter 25 = .ok (.iaload, 1) := by decide +kernel
theorem dX5_placeAfter_26 : decode cX5_placeAfter 26 = .ok (.istore_n 3, 1) := by decide +kernel
theorem dX5_placeAfter_27 : decode cX5_placeAfter 27 = .ok (.aload_n 0, 1) := by decide +kernel
theorem dX5_placeAfter_28 : decode cX5_placeAfter 28 = .ok (.iload_n 3, 1) := by decide +kernel
theorem dX5_placeAfter_29 : decode cX5_placeAfter 29 = .ok (.invokevirtual 85, 3) := by decide +kernel
theorem dX5_placeAfter_32 : decode cX5_placeAfter 32 = .ok (.ifCond .eq 14, 3) := by decide +kernel
theorem dX5_placeAfter_35 : decode cX5_placeAfter 35 = .ok (.iload_n 2, 1) := by decide +kernel
theorem dX5_placeAfter_36 : decode cX5_placeAfter 36 = .ok (.iload_n 3, 1) := by decide +kernel
theorem dX5_placeAfter_37 : decode cX5_placeAfter 37 = .ok (.invokestatic 102, 3) := by decide +kernel
theorem dX5_placeAfter_40 : decode cX5_placeAfter 40 = .ok (.iand, 1) := by decide +kernel
theorem dX5_placeAfter_41 : decode cX5_placeAfter 41 = .ok (.ifCond .ne 5, 3) := by decide +kernel
theorem dX5_placeAfter_44 : decode cX5_placeAfter 44 = .ok (.iload_n 3, 1) := by decide +kernel
theorem dX5_placeAfter_45 : decode cX5_placeAfter 45 = .ok (.ireturn, 1) := by decide +kernel
theorem dX5_placeAfter_46 : decode cX5_placeAfter 46 = .ok (.iinc 4 1, 3) := by decide +kernel
theorem dX5_placeAfter_49 : decode cX5_placeAfter 49 = .ok (.goto (-44), 3) := by decide +kernel
theorem dX5_placeAfter_52 : decode cX5_placeAfter 52 = .ok (.iload_n 1, 1) := by decide +kernel
theorem dX5_placeAfter_53 : decode cX5_placeAfter 53 = .ok (.ireturn, 1) := by decide +kernel
theorem dX5_setTaken_0 : decode cX5_setTaken 0 = .ok (.aload_n 0, 1) := by decide +kernel
theorem dX5_setTaken_1 : decode cX5_setTaken 1 = .ok (.iload_n 2, 1) := by decide +kernel
theorem dX5_setTaken_2 : decode cX5_setTaken 2 = .ok (.ifCond .eq 15, 3) := by decide +kernel
theorem dX5_setTaken_5 : decode cX5_setTaken 5 = .ok (.aload_n 0, 1) := by decide +kernel
theorem dX5_setTaken_6 : decode cX5_setTaken 6 = .ok (.getfield 62, 3) := by decide +kernel
theorem dX5_setTaken_9 : decode cX5_setTaken 9 = .ok (.iload_n 1, 1) := by decide +kernel
theorem dX5_setTaken_10 : decode cX5_setTaken 10 = .ok (.invokestatic 79, 3) := by decide +kernel
theorem dX5_setTaken_13 : decode cX5_setTaken 13 = .ok (.lor, 1) := by decide +kernel
theorem dX5_setTaken_14 : decode cX5_setTaken 14 = .ok (.goto 16, 3) := by decide +kernel
theorem dX5_setTaken_17 : decode cX5_setTaken 17 = .ok (.aload_n 0, 1) := by decide +kernel
theorem dX5_setTaken_18 : decode cX5_setTaken 18 = .ok (.getfield 62, 3) := by decide +kernel
theorem dX5_setTaken_21 : decode cX5_setTaken 21 = .ok (.iload_n 1, 1) := by decide +kernel
theorem dX5_setTaken_22 : decode cX5_setTaken 22 = .ok (.invokestatic 79, 3) := by decide +kernel
theorem dX5_setTaken_25 : decode cX5_setTaken 25 = .ok (.ldc2_w 83, 3) := by decide +kernel
theorem dX5_setTaken_28 : decode cX5_setTaken 28 = .ok (.lxor, 1) := by decide +kernel
theorem dX5_setTaken_29 : decode cX5_setTaken 29 = .ok (.land, 1) := by decide +kernel
theorem dX5_setTaken_30 : decode cX5_setTaken 30 = .ok (.putfield 62, 3) := by decide +kernel
theorem dX5_setTaken_33 : decode cX5_setTaken 33 = .ok (.return_, 1) := by decide +kernel
theorem dX5_spotBy_0 : decode cX5_spotBy 0 = .ok (.aload_n 0, 1) := by decide +kernel
theorem dX5_spotBy_1 : decode cX5_spotBy 1 = .ok (.iload_n 1, 1) := by decide +kernel
theorem dX5_spotBy_2 : decode cX5_spotBy 2 = .ok (.invokevirtual 85, 3) := by decide +kernel
theorem dX5_spotBy_5 : decode cX5_spotBy 5 = .ok (.ifCond .eq 21, 3) := by decide +kernel
theorem dX5_spotBy_8 : decode cX5_spotBy 8 = .ok (.aload_n 0, 1) := by decide +kernel
theorem dX5_spotBy_9 : decode cX5_spotBy 9 = .ok (.getfield 9, 3) := by decide +kernel
theorem dX5_spotBy_12 : decode cX5_spotBy 12 = .ok (.iload_n 1, 1) := by decide +kernel
theorem dX5_spotBy_13 : decode cX5_spotBy 13 = .ok (.iaload, 1) := by decide +kernel
theorem dX5_spotBy_14 : decode cX5_spotBy 14 = .ok (.aload_n 0, 1) := by decide +kernel
theorem dX5_spotBy_15 : decode cX5_spotBy 15 = .ok (.getfield 15, 3) := by decide +kernel
theorem dX5_spotBy_18 : decode cX5_spotBy 18 = .ok (.iload_n 1, 1) := by decide +kernel
theorem dX5_spotBy_19 : decode cX5_spotBy 19 = .ok (.iaload, 1) := by decide +kernel
theorem dX5_spotBy_20 : decode cX5_spotBy 20 = .ok (.invokestatic 89, 3) := by decide +kernel
theorem dX5_spotBy_23 : decode cX5_spotBy 23 = .ok (.goto 4, 3) := by decide +kernel
theorem dX5_spotBy_26 : decode cX5_spotBy 26 = .ok (.iconst 0, 1) := by decide +kernel
theorem dX5_spotBy_27 : decode cX5_spotBy 27 = .ok (.ireturn, 1) := by decide +kernel
theorem dX5_stepsBy_0 : decode cX5_stepsBy 0 = .ok (.iload_n 2, 1) := by decide +kernel
theorem dX5_stepsBy_1 : decode cX5_stepsBy 1 = .ok (.ifCond .lt 17, 3) := by decide +kernel
theorem dX5_stepsBy_4 : decode cX5_stepsBy 4 = .ok (.iload_n 2, 1) := by decide +kernel
theorem dX5_stepsBy_5 : decode cX5_stepsBy 5 = .ok (.aload_n 0, 1) := by decide +kernel
theorem dX5_stepsBy_6 : decode cX5_stepsBy 6 = .ok (.getfield 56, 3) := by decide +kernel
theorem dX5_stepsBy_9 : decode cX5_stepsBy 9 = .ok (.if_icmp .ge 9, 3) := by decide +kernel
theorem dX5_stepsBy_12 : decode cX5_stepsBy 12 = .ok (.iload_n 2, 1) := by decide +kernel
theorem dX5_stepsBy_13 : decode cX5_stepsBy 13 = .ok (.bipush 9, 2) := by decide +kernel
theorem dX5_stepsBy_15 : decode cX5_stepsBy 15 = .ok (.if_icmp .lt 6, 3) := by decide +kernel
theorem dX5_stepsBy_18 : decode cX5_stepsBy 18 = .ok (.bipush 50, 2) := by decide +kernel
theorem dX5_stepsBy_20 : decode cX5_stepsBy 20 = .ok (.ireturn, 1) := by decide +kernel
theorem dX5_stepsBy_21 : decode cX5_stepsBy 21 = .ok (.iload_n 1, 1) := by decide +kernel
theorem dX5_stepsBy_22 : decode cX5_stepsBy 22 = .ok (.bipush 6, 2) := by decide +kernel
theorem dX5_stepsBy_24 : decode cX5_stepsBy 24 = .ok (.idiv, 1) := by decide +kernel
theorem dX5_stepsBy_25 : decode cX5_stepsBy 25 = .ok (.aload_n 0, 1) := by decide +kernel
theorem dX5_stepsBy_26 : decode cX5_stepsBy 26 = .ok (.getfield 9, 3) := by decide +kernel
theorem dX5_stepsBy_29 : decode cX5_stepsBy 29 = .ok (.iload_n 2, 1) := by decide +kernel
theorem dX5_stepsBy_30 : decode cX5_stepsBy 30 = .ok (.iaload, 1) := by decide +kernel
theorem dX5_stepsBy_31 : decode cX5_stepsBy 31 = .ok (.isub, 1) := by decide +kernel
theorem dX5_stepsBy_32 : decode cX5_stepsBy 32 = .ok (.invokestatic 93, 3) := by decide +kernel
theorem dX5_stepsBy_35 : decode cX5_stepsBy 35 = .ok (.iload_n 1, 1) := by decide +kernel
theorem dX5_stepsBy_36 : decode cX5_stepsBy 36 = .ok (.bipush 6, 2) := by decide +kernel
theorem dX5_stepsBy_38 : decode cX5_stepsBy 38 = .ok (.irem, 1) := by decide +kernel
theorem dX5_stepsBy_39 : decode cX5_stepsBy 39 = .ok (.aload_n 0, 1) := by decide +kernel
theorem dX5_stepsBy_40 : decode cX5_stepsBy 40 = .ok (.getfield 15, 3) := by decide +kernel
theorem dX5_stepsBy_43 : decode cX5_stepsBy 43 = .ok (.iload_n 2, 1) := by decide +kernel
theorem dX5_stepsBy_44 : decode cX5_stepsBy 44 = .ok (.iaload, 1) := by decide +kernel
theorem dX5_stepsBy_45 : decode cX5_stepsBy 45 = .ok (.isub, 1) := by decide +kernel
theorem dX5_stepsBy_46 : decode cX5_stepsBy 46 = .ok (.invokestatic 93, 3) := by decide +kernel
theorem dX5_stepsBy_49 : decode cX5_stepsBy 49 = .ok (.iadd, 1) := by decide +kernel
theorem dX5_stepsBy_50 : decode cX5_stepsBy 50 = .ok (.iconst 1, 1) := by decide +kernel
theorem dX5_stepsBy_51 : decode cX5_stepsBy 51 = .ok (.iadd, 1) := by decide +kernel
theorem dX5_stepsBy_52 : decode cX5_stepsBy 52 = .ok (.ireturn, 1) := by decide +kernel
theorem dX5_takeBack_0 : decode cX5_takeBack 0 = .ok (.aload_n 0, 1) := by decide +kernel
theorem dX5_takeBack_1 : decode cX5_takeBack 1 = .ok (.getfield 39, 3) := by decide +kernel
theorem dX5_takeBack_4 : decode cX5_takeBack 4 = .ok (.getfield 66, 3) := by decide +kernel
theorem dX5_takeBack_7 : decode cX5_takeBack 7 = .ok (.ifCond .le 15, 3) := by decide +kernel
theorem dX5_takeBack_10 : decode cX5_takeBack 10 = .ok (.aload_n 0, 1) := by decide +kernel
theorem dX5_takeBack_11 : decode cX5_takeBack 11 = .ok (.getfield 39, 3) := by decide +kernel
theorem dX5_takeBack_14 : decode cX5_takeBack 14 = .ok (.getfield 66, 3) := by decide +kernel
theorem dX5_takeBack_17 : decode cX5_takeBack 17 = .ok (.bipush 40, 2) := by decide +kernel
theorem dX5_takeBack_19 : decode cX5_takeBack 19 = .ok (.if_icmp .le 5, 3) := by decide +kernel
theorem dX5_takeBack_22 : decode cX5_takeBack 22 = .ok (.iconst 0, 1) := by decide +kernel
theorem dX5_takeBack_23 : decode cX5_takeBack 23 = .ok (.ireturn, 1) := by decide +kernel
theorem dX5_takeBack_24 : decode cX5_takeBack 24 = .ok (.aload_n 0, 1) := by decide +kernel
theorem dX5_takeBack_25 : decode cX5_takeBack 25 = .ok (.getfield 39, 3) := by decide +kernel
theorem dX5_takeBack_28 : decode cX5_takeBack 28 = .ok (.dup, 1) := by decide +kernel
theorem dX5_takeBack_29 : decode cX5_takeBack 29 = .ok (.getfield 66, 3) := by decide +kernel
theorem dX5_takeBack_32 : decode cX5_takeBack 32 = .ok (.iconst 1, 1) := by decide +kernel
theorem dX5_takeBack_33 : decode cX5_takeBack 33 = .ok (.isub, 1) := by decide +kernel
theorem dX5_takeBack_34 : decode cX5_takeBack 34 = .ok (.putfield 66, 3) := by decide +kernel
theorem dX5_takeBack_37 : decode cX5_takeBack 37 = .ok (.aload_n 0, 1) := by decide +kernel
theorem dX5_takeBack_38 : decode cX5_takeBack 38 = .ok (.getfield 39, 3) := by decide +kernel
theorem dX5_takeBack_41 : decode cX5_takeBack 41 = .ok (.getfield 66, 3) := by decide +kernel
theorem dX5_takeBack_44 : decode cX5_takeBack 44 = .ok (.istore_n 1, 1) := by decide +kernel
theorem dX5_takeBack_45 : decode cX5_takeBack 45 = .ok (.aload_n 0, 1) := by decide +kernel
theorem dX5_takeBack_46 : decode cX5_takeBack 46 = .ok (.getfield 39, 3) := by decide +kernel
theorem dX5_takeBack_49 : decode cX5_takeBack 49 = .ok (.getfield 105, 3) := by decide +kernel
theorem dX5_takeBack_52 : decode cX5_takeBack 52 = .ok (.iload_n 1, 1) := by decide +kernel
theorem dX5_takeBack_53 : decode cX5_takeBack 53 = .ok (.iaload, 1) := by decide +kernel
theorem dX5_takeBack_54 : decode cX5_takeBack 54 = .ok (.istore_n 2, 1) := by decide +kernel
theorem dX5_takeBack_55 : decode cX5_takeBack 55 = .ok (.aload_n 0, 1) := by decide +kernel
theorem dX5_takeBack_56 : decode cX5_takeBack 56 = .ok (.getfield 39, 3) := by decide +kernel
theorem dX5_takeBack_59 : decode cX5_takeBack 59 = .ok (.getfield 108, 3) := by decide +kernel
theorem dX5_takeBack_62 : decode cX5_takeBack 62 = .ok (.iload_n 1, 1) := by decide +kernel
theorem dX5_takeBack_63 : decode cX5_takeBack 63 = .ok (.iaload, 1) := by decide +kernel
theorem dX5_takeBack_64 : decode cX5_takeBack 64 = .ok (.lookupswitch 95 #[(0, 28), (1, 54)], 28) := by decide +kernel
theorem dX5_takeBack_92 : decode cX5_takeBack 92 = .ok (.aload_n 0, 1) := by decide +kernel
theorem dX5_takeBack_93 : decode cX5_takeBack 93 = .ok (.iload_n 2, 1) := by decide +kernel
theorem dX5_takeBack_94 : decode cX5_takeBack 94 = .ok (.invokevirtual 85, 3) := by decide +kernel
theorem dX5_takeBack_97 : decode cX5_takeBack 97 = .ok (.ifCond .eq 85, 3) := by decide +kernel
theorem dX5_takeBack_100 : decode cX5_takeBack 100 = .ok (.aload_n 0, 1) := by decide +kernel
theorem dX5_takeBack_101 : decode cX5_takeBack 101 = .ok (.getfield 21, 3) := by decide +kernel
theorem dX5_takeBack_104 : decode cX5_takeBack 104 = .ok (.iload_n 2, 1) := by decide +kernel
theorem dX5_takeBack_105 : decode cX5_takeBack 105 = .ok (.aload_n 0, 1) := by decide +kernel
theorem dX5_takeBack_106 : decode cX5_takeBack 106 = .ok (.getfield 39, 3) := by decide +kernel
theorem dX5_takeBack_109 : decode cX5_takeBack 109 = .ok (.getfield 111, 3) := by decide +kernel
theorem dX5_takeBack_112 : decode cX5_takeBack 112 = .ok (.iload_n 1, 1) := by decide +kernel
theorem dX5_takeBack_113 : decode cX5_takeBack 113 = .ok (.iaload, 1) := by decide +kernel
theorem dX5_takeBack_114 : decode cX5_takeBack 114 = .ok (.iastore, 1) := by decide +kernel
theorem dX5_takeBack_115 : decode cX5_takeBack 115 = .ok (.goto 67, 3) := by decide +kernel
theorem dX5_takeBack_118 : decode cX5_takeBack 118 = .ok (.aload_n 0, 1) := by decide +kernel
theorem dX5_takeBack_119 : decode cX5_takeBack 119 = .ok (.iload_n 2, 1) := by decide +kernel
theorem dX5_takeBack_120 : decode cX5_takeBack 120 = .ok (.invokevirtual 99, 3) := by decide +kernel
theorem dX5_takeBack_123 : decode cX5_takeBack 123 = .ok (.ifCond .eq 59, 3) := by decide +kernel
theorem dX5_takeBack_126 : decode cX5_takeBack 126 = .ok (.aload_n 0, 1) := by decide +kernel
theorem dX5_takeBack_127 : decode cX5_takeBack 127 = .ok (.getfield 30, 3) := by decide +kernel
theorem dX5_takeBack_130 : decode cX5_takeBack 130 = .ok (.iload_n 2, 1) := by decide +kernel
theorem dX5_takeBack_131 : decode cX5_takeBack 131 = .ok (.aload_n 0, 1) := by decide +kernel
theorem dX5_takeBack_132 : decode cX5_takeBack 132 = .ok (.getfield 39, 3) := by decide +kernel
theorem dX5_takeBack_135 : decode cX5_takeBack 135 = .ok (.getfield 111, 3) := by decide +kernel
theorem dX5_takeBack_138 : decode cX5_takeBack 138 = .ok (.iload_n 1, 1) := by decide +kernel
theorem dX5_takeBack_139 : decode cX5_takeBack 139 = .ok (.iaload, 1) := by decide +kernel
theorem dX5_takeBack_140 : decode cX5_takeBack 140 = .ok (.iastore, 1) := by decide +kernel
theorem dX5_takeBack_141 : decode cX5_takeBack 141 = .ok (.aload_n 0, 1) := by decide +kernel
theorem dX5_takeBack_142 : decode cX5_takeBack 142 = .ok (.getfield 33, 3) := by decide +kernel
theorem dX5_takeBack_145 : decode cX5_takeBack 145 = .ok (.iload_n 2, 1) := by decide +kernel
theorem dX5_takeBack_146 : decode cX5_takeBack 146 = .ok (.aload_n 0, 1) := by decide +kernel
theorem dX5_takeBack_147 : decode cX5_takeBack 147 = .ok (.getfield 39, 3) := by decide +kernel
theorem dX5_takeBack_150 : decode cX5_takeBack 150 = .ok (.getfield 114, 3) := by decide +kernel
theorem dX5_takeBack_153 : decode cX5_takeBack 153 = .ok (.iload_n 1, 1) := by decide +kernel
theorem dX5_takeBack_154 : decode cX5_takeBack 154 = .ok (.iaload, 1) := by decide +kernel
theorem dX5_takeBack_155 : decode cX5_takeBack 155 = .ok (.iastore, 1) := by decide +kernel
theorem dX5_takeBack_156 : decode cX5_takeBack 156 = .ok (.goto 26, 3) := by decide +kernel
theorem dX5_takeBack_159 : decode cX5_takeBack 159 = .ok (.aload_n 0, 1) := by decide +kernel
theorem dX5_takeBack_160 : decode cX5_takeBack 160 = .ok (.iload_n 2, 1) := by decide +kernel
theorem dX5_takeBack_161 : decode cX5_takeBack 161 = .ok (.aload_n 0, 1) := by decide +kernel
theorem dX5_takeBack_162 : decode cX5_takeBack 162 = .ok (.getfield 39, 3) := by decide +kernel
theorem dX5_takeBack_165 : decode cX5_takeBack 165 = .ok (.getfield 111, 3) := by decide +kernel
theorem dX5_takeBack_168 : decode cX5_takeBack 168 = .ok (.iload_n 1, 1) := by decide +kernel
theorem dX5_takeBack_169 : decode cX5_takeBack 169 = .ok (.iaload, 1) := by decide +kernel
theorem dX5_takeBack_170 : decode cX5_takeBack 170 = .ok (.iconst 1, 1) := by decide +kernel
theorem dX5_takeBack_171 : decode cX5_takeBack 171 = .ok (.if_icmp .ne 7, 3) := by decide +kernel
theorem dX5_takeBack_174 : decode cX5_takeBack 174 = .ok (.iconst 1, 1) := by decide +kernel
theorem dX5_takeBack_175 : decode cX5_takeBack 175 = .ok (.goto 4, 3) := by decide +kernel
theorem dX5_takeBack_178 : decode cX5_takeBack 178 = .ok (.iconst 0, 1) := by decide +kernel
theorem dX5_takeBack_179 : decode cX5_takeBack 179 = .ok (.invokevirtual 117, 3) := by decide +kernel
theorem dX5_takeBack_182 : decode cX5_takeBack 182 = .ok (.iconst 1, 1) := by decide +kernel
theorem dX5_takeBack_183 : decode cX5_takeBack 183 = .ok (.ireturn, 1) := by decide +kernel
theorem dX6_advance_0 : decode cX6_advance 0 = .ok (.aload_n 0, 1) := by decide +kernel
theorem dX6_advance_1 : decode cX6_advance 1 = .ok (.getfield 15, 3) := by decide +kernel
theorem dX6_advance_4 : decode cX6_advance 4 = .ok (.aload_n 0, 1) := by decide +kernel
theorem dX6_advance_5 : decode cX6_advance 5 = .ok (.getfield 31, 3) := by decide +kernel
theorem dX6_advance_8 : decode cX6_advance 8 = .ok (.invokevirtual 148, 3) := by decide +kernel
theorem dX6_advance_11 : decode cX6_advance 11 = .ok (.istore_n 1, 1) := by decide +kernel
theorem dX6_advance_12 : decode cX6_advance 12 = .ok (.aload_n 0, 1) := by decide +kernel
theorem dX6_advance_13 : decode cX6_advance 13 = .ok (.getfield 31, 3) := by decide +kernel
theorem dX6_advance_16 : decode cX6_advance 16 = .ok (.sipush 1400, 3) := by decide +kernel
theorem dX6_advance_19 : decode cX6_advance 19 = .ok (.if_icmp .ge 40, 3) := by decide +kernel
theorem dX6_advance_22 : decode cX6_advance 22 = .ok (.iload_n 1, 1) := by decide +kernel
theorem dX6_advance_23 : decode cX6_advance 23 = .ok (.bipush 32, 2) := by decide +kernel
theorem dX6_advance_25 : decode cX6_advance 25 = .ok (.if_icmp .eq 9, 3) := by decide +kernel
theorem dX6_advance_28 : decode cX6_advance 28 = .ok (.iload_n 1, 1) := by decide +kernel
theorem dX6_advance_29 : decode cX6_advance 29 = .ok (.bipush 10, 2) := by decide +kernel
theorem dX6_advance_31 : decode cX6_advance 31 = .ok (.if_icmp .ne 28, 3) := by decide +kernel
theorem dX6_advance_34 : decode cX6_advance 34 = .ok (.aload_n 0, 1) := by decide +kernel
theorem dX6_advance_35 : decode cX6_advance 35 = .ok (.dup, 1) := by decide +kernel
theorem dX6_advance_36 : decode cX6_advance 36 = .ok (.getfield 31, 3) := by decide +kernel
theorem dX6_advance_39 : decode cX6_advance 39 = .ok (.iconst 1, 1) := by decide +kernel
theorem dX6_advance_40 : decode cX6_advance 40 = .ok (.iadd, 1) := by decide +kernel
theorem dX6_advance_41 : decode cX6_advance 41 = .ok (.putfield 31, 3) := by decide +kernel
theorem dX6_advance_44 : decode cX6_advance 44 = .ok (.aload_n 0, 1) := by decide +kernel
theorem dX6_advance_45 : decode cX6_advance 45 = .ok (.getfield 15, 3) := by decide +kernel
theorem dX6_advance_48 : decode cX6_advance 48 = .ok (.aload_n 0, 1) := by decide +kernel
theorem dX6_advance_49 : decode cX6_advance 49 = .ok (.getfield 31, 3) := by decide +kernel
theorem dX6_advance_52 : decode cX6_advance 52 = .ok (.invokevirtual 148, 3) := by decide +kernel
theorem dX6_advance_55 : decode cX6_advance 55 = .ok (.istore_n 1, 1) := by decide +kernel
theorem dX6_advance_56 : decode cX6_advance 56 = .ok (.goto (-44), 3) := by decide +kernel
theorem dX6_advance_59 : decode cX6_advance 59 = .ok (.aload_n 0, 1) := by decide +kernel
theorem dX6_advance_60 : decode cX6_advance 60 = .ok (.aload_n 0, 1) := by decide +kernel
theorem dX6_advance_61 : decode cX6_advance 61 = .ok (.getfield 31, 3) := by decide +kernel
theorem dX6_advance_64 : decode cX6_advance 64 = .ok (.putfield 84, 3) := by decide +kernel
theorem dX6_advance_67 : decode cX6_advance 67 = .ok (.iload_n 1, 1) := by decide +kernel
theorem dX6_advance_68 : decode cX6_advance 68 = .ok (.iconst (-1), 1) := by decide +kernel
theorem dX6_advance_69 : decode cX6_advance 69 = .ok (.if_icmp .ne 11, 3) := by decide +kernel
theorem dX6_advance_72 : decode cX6_advance 72 = .ok (.aload_n 0, 1) := by decide +kernel
theorem dX6_advance_73 : decode cX6_advance 73 = .ok (.iconst (-1), 1) := by decide +kernel
theorem dX6_advance_74 : decode cX6_advance 74 = .ok (.putfield 37, 3) := by decide +kernel
theorem dX6_advance_77 : decode cX6_advance 77 = .ok (.goto 68, 3) := by decide +kernel
theorem dX6_advance_80 : decode cX6_advance 80 = .ok (.iload_n 1, 1) := by decide +kernel
theorem dX6_advance_81 : decode cX6_advance 81 = .ok (.bipush 48, 2) := by decide +kernel
theorem dX6_advance_83 : decode cX6_advance 83 = .ok (.if_icmp .lt 16, 3) := by decide +kernel
theorem dX6_advance_86 : decode cX6_advance 86 = .ok (.iload_n 1, 1) := by decide +kernel
theorem dX6_advance_87 : decode cX6_advance 87 = .ok (.bipush 57, 2) := by decide +kernel
theorem dX6_advance_89 : decode cX6_advance 89 = .ok (.if_icmp .gt 10, 3) := by decide +kernel
theorem dX6_advance_92 : decode cX6_advance 92 = .ok (.aload_n 0, 1) := by decide +kernel
theorem dX6_advance_93 : decode cX6_advance 93 = .ok (.invokevirtual 154, 3) := by decide +kernel
theorem dX6_advance_96 : decode cX6_advance 96 = .ok (.goto 49, 3) := by decide +kernel
theorem dX6_advance_99 : decode cX6_advance 99 = .ok (.iload_n 1, 1) := by decide +kernel
theorem dX6_advance_100 : decode cX6_advance 100 = .ok (.bipush 97, 2) := by decide +kernel
theorem dX6_advance_102 : decode cX6_advance 102 = .ok (.if_icmp .lt 16, 3) := by decide +kernel
theorem dX6_advance_105 : decode cX6_advance 105 = .ok (.iload_n 1, 1) := by decide +kernel
theorem dX6_advance_106 : decode cX6_advance 106 = .ok (.bipush 122, 2) := by decide +kernel
theorem dX6_advance_108 : decode cX6_advance 108 = .ok (.if_icmp .gt 10, 3) := by decide +kernel
theorem dX6_advance_111 : decode cX6_advance 111 = .ok (.aload_n 0, 1) := by decide +kernel
theorem dX6_advance_112 : decode cX6_advance 112 = .ok (.invokevirtual 157, 3) := by decide +kernel
theorem dX6_advance_115 : decode cX6_advance 115 = .ok (.goto 30, 3) := by decide +kernel
theorem dX6_advance_118 : decode cX6_advance 118 = .ok (.aload_n 0, 1) := by decide +kernel
theorem dX6_advance_119 : decode cX6_advance 119 = .ok (.iload_n 1, 1) := by decide +kernel
theorem dX6_advance_120 : decode cX6_advance 120 = .ok (.bipush 59, 2) := by decide +kernel
theorem dX6_advance_122 : decode cX6_advance 122 = .ok (.if_icmp .ne 8, 3) := by decide +kernel
theorem dX6_advance_125 : decode cX6_advance 125 = .ok (.bipush (-4), 2) := by decide +kernel
theorem dX6_advance_127 : decode cX6_advance 127 = .ok (.goto 5, 3) := by decide +kernel
theorem dX6_advance_130 : decode cX6_advance 130 = .ok (.bipush (-2), 2) := by decide +kernel
theorem dX6_advance_132 : decode cX6_advance 132 = .ok (.putfield 37, 3) := by decide +kernel
theorem dX6_advance_135 : decode cX6_advance 135 = .ok (.aload_n 0, 1) := by decide +kernel
theorem dX6_advance_136 : decode cX6_advance 136 = .ok (.dup, 1) := by decide +kernel
theorem dX6_advance_137 : decode cX6_advance 137 = .ok (.getfield 31, 3) := by decide +kernel
theorem dX6_advance_140 : decode cX6_advance 140 = .ok (.iconst 1, 1) := by decide +kernel
theorem dX6_advance_141 : decode cX6_advance 141 = .ok (.iadd, 1) := by decide +kernel
theorem dX6_advance_142 : decode cX6_advance 142 = .ok (.putfield 31, 3) := by decide +kernel
theorem dX6_advance_145 : decode cX6_advance 145 = .ok (.return_, 1) := by decide +kernel
theorem dX6_init_0 : decode cX6_init 0 = .ok (.aload_n 0, 1) := by decide +kernel
theorem dX6_init_1 : decode cX6_init 1 = .ok (.invokespecial 3, 3) := by decide +kernel
theorem dX6_init_4 : decode cX6_init 4 = .ok (.aload_n 0, 1) := by decide +kernel
theorem dX6_init_5 : decode cX6_init 5 = .ok (.iconst (-1), 1) := by decide +kernel
theorem dX6_init_6 : decode cX6_init 6 = .ok (.putfield 9, 3) := by decide +kernel
theorem dX6_init_9 : decode cX6_init 9 = .ok (.aload_n 0, 1) := by decide +kernel
theorem dX6_init_10 : decode cX6_init 10 = .ok (.aload_n 1, 1) := by decide +kernel
theorem dX6_init_11 : decode cX6_init 11 = .ok (.putfield 15, 3) := by decide +kernel
theorem dX6_init_14 : decode cX6_init 14 = .ok (.aload_n 0, 1) := by decide +kernel
theorem dX6_init_15 : decode cX6_init 15 = .ok (.aload_n 2, 1) := by decide +kernel
theorem dX6_init_16 : decode cX6_init 16 = .ok (.putfield 19, 3) := by decide +kernel
theorem dX6_init_19 : decode cX6_init 19 = .ok (.return_, 1) := by decide +kernel
theorem dX6_readExit_0 : decode cX6_readExit 0 = .ok (.aload_n 0, 1) := by decide +kernel
theorem dX6_readExit_1 : decode cX6_readExit 1 = .ok (.getfield 19, 3) := by decide +kernel
theorem dX6_readExit_4 : decode cX6_readExit 4 = .ok (.getfield 110, 3) := by decide +kernel
theorem dX6_readExit_7 : decode cX6_readExit 7 = .ok (.istore_n 1, 1) := by decide +kernel
theorem dX6_readExit_8 : decode cX6_readExit 8 = .ok (.iload_n 1, 1) := by decide +kernel
theorem dX6_readExit_9 : decode cX6_readExit 9 = .ok (.bipush 7, 2) := by decide +kernel
theorem dX6_readExit_11 : decode cX6_readExit 11 = .ok (.if_icmp .lt 13, 3) := by decide +kernel
theorem dX6_readExit_14 : decode cX6_readExit 14 = .ok (.aload_n 0, 1) := by decide +kernel
theorem dX6_readExit_15 : decode cX6_readExit 15 = .ok (.iconst 3, 1) := by decide +kernel
theorem dX6_readExit_16 : decode cX6_readExit 16 = .ok (.aload_n 0, 1) := by decide +kernel
theorem dX6_readExit_17 : decode cX6_readExit 17 = .ok (.getfield 84, 3) := by decide +kernel
theorem dX6_readExit_20 : decode cX6_readExit 20 = .ok (.invokevirtual 87, 3) := by decide +kernel
theorem dX6_readExit_23 : decode cX6_readExit 23 = .ok (.ireturn, 1) := by decide +kernel
theorem dX6_readExit_24 : decode cX6_readExit 24 = .ok (.aload_n 0, 1) := by decide +kernel
theorem dX6_readExit_25 : decode cX6_readExit 25 = .ok (.ldc 51, 2) := by decide +kernel
theorem dX6_readExit_27 : decode cX6_readExit 27 = .ok (.invokevirtual 58, 3) := by decide +kernel
theorem dX6_readExit_30 : decode cX6_readExit 30 = .ok (.ifCond .eq 20, 3) := by decide +kernel
theorem dX6_readExit_33 : decode cX6_readExit 33 = .ok (.aload_n 0, 1) := by decide +kernel
theorem dX6_readExit_34 : decode cX6_readExit 34 = .ok (.iconst 0, 1) := by decide +kernel
theorem dX6_readExit_35 : decode cX6_readExit 35 = .ok (.aload_n 0, 1) := by decide +kernel
theorem dX6_readExit_36 : decode cX6_readExit 36 = .ok (.getfield 19, 3) := by decide +kernel
theorem dX6_readExit_39 : decode cX6_readExit 39 = .ok (.getfield 81, 3) := by decide +kernel
theorem dX6_readExit_42 : decode cX6_readExit 42 = .ok (.iconst 1, 1) := by decide +kernel
theorem dX6_readExit_43 : decode cX6_readExit 43 = .ok (.isub, 1) := by decide +kernel
theorem dX6_readExit_44 : decode cX6_readExit 44 = .ok (.invokevirtual 64, 3) := by decide +kernel
theorem dX6_readExit_47 : decode cX6_readExit 47 = .ok (.ifCond .ne 5, 3) := by decide +kernel
theorem dX6_readExit_50 : decode cX6_readExit 50 = .ok (.iconst 0, 1) := by decide +kernel
theorem dX6_readExit_51 : decode cX6_readExit 51 = .ok (.ireturn, 1) := by decide +kernel
theorem dX6_readExit_52 : decode cX6_readExit 52 = .ok (.aload_n 0, 1) := by decide +kernel
theorem dX6_readExit_53 : decode cX6_readExit 53 = .ok (.getfield 19, 3) := by decide +kernel
theorem dX6_readExit_56 : decode cX6_readExit 56 = .ok (.aload_n 0, 1) := by decide +kernel
theorem dX6_readExit_57 : decode cX6_readExit 57 = .ok (.getfield 68, 3) := by decide +kernel
theorem dX6_readExit_60 : decode cX6_readExit 60 = .ok (.invokevirtual 113, 3) := by decide +kernel
theorem dX6_readExit_63 : decode cX6_readExit 63 = .ok (.ifCond .eq 13, 3) := by decide +kernel
theorem dX6_readExit_66 : decode cX6_readExit 66 = .ok (.aload_n 0, 1) := by decide +kernel
theorem dX6_readExit_67 : decode cX6_readExit 67 = .ok (.iconst 2, 1) := by decide +kernel
theorem dX6_readExit_68 : decode cX6_readExit 68 = .ok (.aload_n 0, 1) := by decide +kernel
theorem dX6_readExit_69 : decode cX6_readExit 69 = .ok (.getfield 100, 3) := by decide +kernel
theorem dX6_readExit_72 : decode cX6_readExit 72 = .ok (.invokevirtual 87, 3) := by decide +kernel
theorem dX6_readExit_75 : decode cX6_readExit 75 = .ok (.ireturn, 1) := by decide +kernel
theorem dX6_readExit_76 : decode cX6_readExit 76 = .ok (.aload_n 0, 1) := by decide +kernel
theorem dX6_readExit_77 : decode cX6_readExit 77 = .ok (.getfield 19, 3) := by decide +kernel
theorem dX6_readExit_80 : decode cX6_readExit 80 = .ok (.getfield 116, 3) := by decide +kernel
theorem dX6_readExit_83 : decode cX6_readExit 83 = .ok (.iload_n 1, 1) := by decide +kernel
theorem dX6_readExit_84 : decode cX6_readExit 84 = .ok (.aload_n 0, 1) := by decide +kernel
theorem dX6_readExit_85 : decode cX6_readExit 85 = .ok (.getfield 68, 3) := by decide +kernel
theorem dX6_readExit_88 : decode cX6_readExit 88 = .ok (.iastore, 1) := by decide +kernel
theorem dX6_readExit_89 : decode cX6_readExit 89 = .ok (.aload_n 0, 1) := by decide +kernel
theorem dX6_readExit_90 : decode cX6_readExit 90 = .ok (.ldc 119, 2) := by decide +kernel
theorem dX6_readExit_92 : decode cX6_readExit 92 = .ok (.invokevirtual 58, 3) := by decide +kernel
theorem dX6_readExit_95 : decode cX6_readExit 95 = .ok (.ifCond .eq 12, 3) := by decide +kernel
theorem dX6_readExit_98 : decode cX6_readExit 98 = .ok (.aload_n 0, 1) := by decide +kernel
theorem dX6_readExit_99 : decode cX6_readExit 99 = .ok (.iconst 1, 1) := by decide +kernel
theorem dX6_readExit_100 : decode cX6_readExit 100 = .ok (.iconst 3, 1) := by decide +kernel
theorem dX6_readExit_101 : decode cX6_readExit 101 = .ok (.invokevirtual 64, 3) := by decide +kernel
theorem dX6_readExit_104 : decode cX6_readExit 104 = .ok (.ifCond .ne 5, 3) := by decide +kernel
theorem dX6_readExit_107 : decode cX6_readExit 107 = .ok (.iconst 0, 1) := by decide +kernel
theorem dX6_readExit_108 : decode cX6_readExit 108 = .ok (.ireturn, 1) := by decide +kernel
theorem dX6_readExit_109 : decode cX6_readExit 109 = .ok (.aload_n 0, 1) := by decide +kernel
theorem dX6_readExit_110 : decode cX6_readExit 110 = .ok (.getfield 19, 3) := by decide +kernel
theorem dX6_readExit_113 : decode cX6_readExit 113 = .ok (.getfield 120, 3) := by decide +kernel
theorem dX6_readExit_116 : decode cX6_readExit 116 = .ok (.iload_n 1, 1) := by decide +kernel
theorem dX6_readExit_117 : decode cX6_readExit 117 = .ok (.aload_n 0, 1) := by decide +kernel
theorem dX6_readExit_118 : decode cX6_readExit 118 = .ok (.getfield 68, 3) := by decide +kernel
theorem dX6_readExit_121 : decode cX6_readExit 121 = .ok (.iastore, 1) := by decide +kernel
theorem dX6_readExit_122 : decode cX6_readExit 122 = .ok (.aload_n 0, 1) := by decide +kernel
theorem dX6_readExit_123 : decode cX6_readExit 123 = .ok (.getfield 19, 3) := by decide +kernel
theorem dX6_readExit_126 : decode cX6_readExit 126 = .ok (.getfield 123, 3) := by decide +kernel
theorem dX6_readExit_129 : decode cX6_readExit 129 = .ok (.iload_n 1, 1) := by decide +kernel
theorem dX6_readExit_130 : decode cX6_readExit 130 = .ok (.iconst (-1), 1) := by decide +kernel
theorem dX6_readExit_131 : decode cX6_readExit 131 = .ok (.iastore, 1) := by decide +kernel
theorem dX6_readExit_132 : decode cX6_readExit 132 = .ok (.aload_n 0, 1) := by decide +kernel
theorem dX6_readExit_133 : decode cX6_readExit 133 = .ok (.getfield 19, 3) := by decide +kernel
theorem dX6_readExit_136 : decode cX6_readExit 136 = .ok (.getfield 126, 3) := by decide +kernel
theorem dX6_readExit_139 : decode cX6_readExit 139 = .ok (.iload_n 1, 1) := by decide +kernel
theorem dX6_readExit_140 : decode cX6_readExit 140 = .ok (.iconst (-1), 1) := by decide +kernel
theorem dX6_readExit_141 : decode cX6_readExit 141 = .ok (.iastore, 1) := by decide +kernel
theorem dX6_readExit_142 : decode cX6_readExit 142 = .ok (.aload_n 0, 1) := by decide +kernel
theorem dX6_readExit_143 : decode cX6_readExit 143 = .ok (.getfield 37, 3) := by decide +kernel
theorem dX6_readExit_146 : decode cX6_readExit 146 = .ok (.ldc 129, 2) := by decide +kernel
theorem dX6_readExit_148 : decode cX6_readExit 148 = .ok (.if_icmp .ne 13, 3) := by decide +kernel
theorem dX6_readExit_151 : decode cX6_readExit 151 = .ok (.aload_n 0, 1) := by decide +kernel
theorem dX6_readExit_152 : decode cX6_readExit 152 = .ok (.iload_n 1, 1) := by decide +kernel
theorem dX6_readExit_153 : decode cX6_readExit 153 = .ok (.invokevirtual 130, 3) := by decide +kernel
theorem dX6_readExit_156 : decode cX6_readExit 156 = .ok (.ifCond .ne 5, 3) := by decide +kernel
theorem dX6_readExit_159 : decode cX6_readExit 159 = .ok (.iconst 0, 1) := by decide +kernel
theorem dX6_readExit_160 : decode cX6_readExit 160 = .ok (.ireturn, 1) := by decide +kernel
theorem dX6_readExit_161 : decode cX6_readExit 161 = .ok (.aload_n 0, 1) := by decide +kernel
theorem dX6_readExit_162 : decode cX6_readExit 162 = .ok (.getfield 19, 3) := by decide +kernel
theorem dX6_readExit_165 : decode cX6_readExit 165 = .ok (.dup, 1) := by decide +kernel
theorem dX6_readExit_166 : decode cX6_readExit 166 = .ok (.getfield 110, 3) := by decide +kernel
theorem dX6_readExit_169 : decode cX6_readExit 169 = .ok (.iconst 1, 1) := by decide +kernel
theorem dX6_readExit_170 : decode cX6_readExit 170 = .ok (.iadd, 1) := by decide +kernel
theorem dX6_readExit_171 : decode cX6_readExit 171 = .ok (.putfield 110, 3) := by decide +kernel
theorem dX6_readExit_174 : decode cX6_readExit 174 = .ok (.iconst 1, 1) := by decide +kernel
theorem dX6_readExit_175 : decode cX6_readExit 175 = .ok (.ireturn, 1) := by decide +kernel
theorem dX6_readHall_0 : decode cX6_readHall 0 = .ok (.aload_n 0, 1) := by decide +kernel
theorem dX6_readHall_1 : decode cX6_readHall 1 = .ok (.ldc 62, 2) := by decide +kernel
theorem dX6_readHall_3 : decode cX6_readHall 3 = .ok (.invokevirtual 58, 3) := by decide +kernel
theorem dX6_readHall_6 : decode cX6_readHall 6 = .ok (.ifCond .eq 22, 3) := by decide +kernel
theorem dX6_readHall_9 : decode cX6_readHall 9 = .ok (.aload_n 0, 1) := by decide +kernel
theorem dX6_readHall_10 : decode cX6_readHall 10 = .ok (.ldc 63, 2) := by decide +kernel
theorem dX6_readHall_12 : decode cX6_readHall 12 = .ok (.invokevirtual 58, 3) := by decide +kernel
theorem dX6_readHall_15 : decode cX6_readHall 15 = .ok (.ifCond .eq 13, 3) := by decide +kernel
theorem dX6_readHall_18 : decode cX6_readHall 18 = .ok (.aload_n 0, 1) := by decide +kernel
theorem dX6_readHall_19 : decode cX6_readHall 19 = .ok (.iconst 1, 1) := by decide +kernel
theorem dX6_readHall_20 : decode cX6_readHall 20 = .ok (.bipush 6, 2) := by decide +kernel
theorem dX6_readHall_22 : decode cX6_readHall 22 = .ok (.invokevirtual 64, 3) := by decide +kernel
theorem dX6_readHall_25 : decode cX6_readHall 25 = .ok (.ifCond .ne 5, 3) := by decide +kernel
theorem dX6_readHall_28 : decode cX6_readHall 28 = .ok (.iconst 0, 1) := by decide +kernel
theorem dX6_readHall_29 : decode cX6_readHall 29 = .ok (.ireturn, 1) := by decide +kernel
theorem dX6_readHall_30 : decode cX6_readHall 30 = .ok (.aload_n 0, 1) := by decide +kernel
theorem dX6_readHall_31 : decode cX6_readHall 31 = .ok (.getfield 19, 3) := by decide +kernel
theorem dX6_readHall_34 : decode cX6_readHall 34 = .ok (.aload_n 0, 1) := by decide +kernel
theorem dX6_readHall_35 : decode cX6_readHall 35 = .ok (.getfield 68, 3) := by decide +kernel
theorem dX6_readHall_38 : decode cX6_readHall 38 = .ok (.putfield 71, 3) := by decide +kernel
theorem dX6_readHall_41 : decode cX6_readHall 41 = .ok (.aload_n 0, 1) := by decide +kernel
theorem dX6_readHall_42 : decode cX6_readHall 42 = .ok (.ldc 74, 2) := by decide +kernel
theorem dX6_readHall_44 : decode cX6_readHall 44 = .ok (.invokevirtual 58, 3) := by decide +kernel
theorem dX6_readHall_47 : decode cX6_readHall 47 = .ok (.ifCond .eq 13, 3) := by decide +kernel
theorem dX6_readHall_50 : decode cX6_readHall 50 = .ok (.aload_n 0, 1) := by decide +kernel
theorem dX6_readHall_51 : decode cX6_readHall 51 = .ok (.iconst 1, 1) := by decide +kernel
theorem dX6_readHall_52 : decode cX6_readHall 52 = .ok (.bipush 6, 2) := by decide +kernel
theorem dX6_readHall_54 : decode cX6_readHall 54 = .ok (.invokevirtual 64, 3) := by decide +kernel
theorem dX6_readHall_57 : decode cX6_readHall 57 = .ok (.ifCond .ne 5, 3) := by decide +kernel
theorem dX6_readHall_60 : decode cX6_readHall 60 = .ok (.iconst 0, 1) := by decide +kernel
theorem dX6_readHall_61 : decode cX6_readHall 61 = .ok (.ireturn, 1) := by decide +kernel
theorem dX6_readHall_62 : decode cX6_readHall 62 = .ok (.aload_n 0, 1) := by decide +kernel
theorem dX6_readHall_63 : decode cX6_readHall 63 = .ok (.getfield 19, 3) := by decide +kernel
theorem dX6_readHall_66 : decode cX6_readHall 66 = .ok (.aload_n 0, 1) := by decide +kernel
theorem dX6_readHall_67 : decode cX6_readHall 67 = .ok (.getfield 68, 3) := by decide +kernel
theorem dX6_readHall_70 : decode cX6_readHall 70 = .ok (.putfield 75, 3) := by decide +kernel
theorem dX6_readHall_73 : decode cX6_readHall 73 = .ok (.aload_n 0, 1) := by decide +kernel
theorem dX6_readHall_74 : decode cX6_readHall 74 = .ok (.sipush 12343, 3) := by decide +kernel
theorem dX6_readHall_77 : decode cX6_readHall 77 = .ok (.invokevirtual 58, 3) := by decide +kernel
theorem dX6_readHall_80 : decode cX6_readHall 80 = .ok (.ifCond .eq 13, 3) := by decide +kernel
theorem dX6_readHall_83 : decode cX6_readHall 83 = .ok (.aload_n 0, 1) := by decide +kernel
theorem dX6_readHall_84 : decode cX6_readHall 84 = .ok (.iconst 0, 1) := by decide +kernel
theorem dX6_readHall_85 : decode cX6_readHall 85 = .ok (.bipush 12, 2) := by decide +kernel
theorem dX6_readHall_87 : decode cX6_readHall 87 = .ok (.invokevirtual 64, 3) := by decide +kernel
theorem dX6_readHall_90 : decode cX6_readHall 90 = .ok (.ifCond .ne 5, 3) := by decide +kernel
theorem dX6_readHall_93 : decode cX6_readHall 93 = .ok (.iconst 0, 1) := by decide +kernel
theorem dX6_readHall_94 : decode cX6_readHall 94 = .ok (.ireturn, 1) := by decide +kernel
theorem dX6_readHall_95 : decode cX6_readHall 95 = .ok (.aload_n 0, 1) := by decide +kernel
theorem dX6_readHall_96 : decode cX6_readHall 96 = .ok (.getfield 19, 3) := by decide +kernel
theorem dX6_readHall_99 : decode cX6_readHall 99 = .ok (.aload_n 0, 1) := by decide +kernel
theorem dX6_readHall_100 : decode cX6_readHall 100 = .ok (.getfield 68, 3) := by decide +kernel
theorem dX6_readHall_103 : decode cX6_readHall 103 = .ok (.putfield 78, 3) := by decide +kernel
theorem dX6_readHall_106 : decode cX6_readHall 106 = .ok (.iconst 1, 1) := by decide +kernel
theorem dX6_readHall_107 : decode cX6_readHall 107 = .ok (.ireturn, 1) := by decide +kernel
theorem dX6_readKing_0 : decode cX6_readKing 0 = .ok (.aload_n 0, 1) := by decide +kernel
theorem dX6_readKing_1 : decode cX6_readKing 1 = .ok (.ldc 129, 2) := by decide +kernel
theorem dX6_readKing_3 : decode cX6_readKing 3 = .ok (.invokevirtual 58, 3) := by decide +kernel
theorem dX6_readKing_6 : decode cX6_readKing 6 = .ok (.ifCond .eq 13, 3) := by decide +kernel
theorem dX6_readKing_9 : decode cX6_readKing 9 = .ok (.aload_n 0, 1) := by decide +kernel
theorem dX6_readKing_10 : decode cX6_readKing 10 = .ok (.iconst 0, 1) := by decide +kernel
theorem dX6_readKing_11 : decode cX6_readKing 11 = .ok (.bipush 59, 2) := by decide +kernel
theorem dX6_readKing_13 : decode cX6_readKing 13 = .ok (.invokevirtual 64, 3) := by decide +kernel
theorem dX6_readKing_16 : decode cX6_readKing 16 = .ok (.ifCond .ne 5, 3) := by decide +kernel
theorem dX6_readKing_19 : decode cX6_readKing 19 = .ok (.iconst 0, 1) := by decide +kernel
theorem dX6_readKing_20 : decode cX6_readKing 20 = .ok (.ireturn, 1) := by decide +kernel
theorem dX6_readKing_21 : decode cX6_readKing 21 = .ok (.aload_n 0, 1) := by decide +kernel
theorem dX6_readKing_22 : decode cX6_readKing 22 = .ok (.getfield 68, 3) := by decide +kernel
theorem dX6_readKing_25 : decode cX6_readKing 25 = .ok (.istore_n 2, 1) := by decide +kernel
theorem dX6_readKing_26 : decode cX6_readKing 26 = .ok (.aload_n 0, 1) := by decide +kernel
theorem dX6_readKing_27 : decode cX6_readKing 27 = .ok (.sipush 655, 3) := by decide +kernel
theorem dX6_readKing_30 : decode cX6_readKing 30 = .ok (.invokevirtual 58, 3) := by decide +kernel
theorem dX6_readKing_33 : decode cX6_readKing 33 = .ok (.ifCond .eq 13, 3) := by decide +kernel
theorem dX6_readKing_36 : decode cX6_readKing 36 = .ok (.aload_n 0, 1) := by decide +kernel
theorem dX6_readKing_37 : decode cX6_readKing 37 = .ok (.iload_n 2, 1) := by decide +kernel
theorem dX6_readKing_38 : decode cX6_readKing 38 = .ok (.bipush 59, 2) := by decide +kernel
theorem dX6_readKing_40 : decode cX6_readKing 40 = .ok (.invokevirtual 64, 3) := by decide +kernel
theorem dX6_readKing_43 : decode cX6_readKing 43 = .ok (.ifCond .ne 5, 3) := by decide +kernel
theorem dX6_readKing_46 : decode cX6_readKing 46 = .ok (.iconst 0, 1) := by decide +kernel
theorem dX6_readKing_47 : decode cX6_readKing 47 = .ok (.ireturn, 1) := by decide +kernel
theorem dX6_readKing_48 : decode cX6_readKing 48 = .ok (.iload_n 1, 1) := by decide +kernel
theorem dX6_readKing_49 : decode cX6_readKing 49 = .ok (.ifCond .lt 32, 3) := by decide +kernel
theorem dX6_readKing_52 : decode cX6_readKing 52 = .ok (.iload_n 1, 1) := by decide +kernel
theorem dX6_readKing_53 : decode cX6_readKing 53 = .ok (.bipush 7, 2) := by decide +kernel
theorem dX6_readKing_55 : decode cX6_readKing 55 = .ok (.if_icmp .ge 26, 3) := by decide +kernel
theorem dX6_readKing_58 : decode cX6_readKing 58 = .ok (.aload_n 0, 1) := by decide +kernel
theorem dX6_readKing_59 : decode cX6_readKing 59 = .ok (.getfield 19, 3) := by decide +kernel
theorem dX6_readKing_62 : decode cX6_readKing 62 = .ok (.getfield 123, 3) := by decide +kernel
theorem dX6_readKing_65 : decode cX6_readKing 65 = .ok (.iload_n 1, 1) := by decide +kernel
theorem dX6_readKing_66 : decode cX6_readKing 66 = .ok (.iload_n 2, 1) := by decide +kernel
theorem dX6_readKing_67 : decode cX6_readKing 67 = .ok (.iastore, 1) := by decide +kernel
theorem dX6_readKing_68 : decode cX6_readKing 68 = .ok (.aload_n 0, 1) := by decide +kernel
theorem dX6_readKing_69 : decode cX6_readKing 69 = .ok (.getfield 19, 3) := by decide +kernel
theorem dX6_readKing_72 : decode cX6_readKing 72 = .ok (.getfield 126, 3) := by decide +kernel
theorem dX6_readKing_75 : decode cX6_readKing 75 = .ok (.iload_n 1, 1) := by decide +kernel
theorem dX6_readKing_76 : decode cX6_readKing 76 = .ok (.aload_n 0, 1) := by decide +kernel
theorem dX6_readKing_77 : decode cX6_readKing 77 = .ok (.getfield 68, 3) := by decide +kernel
theorem dX6_readKing_80 : decode cX6_readKing 80 = .ok (.iastore, 1) := by decide +kernel
theorem dX6_readKing_81 : decode cX6_readKing 81 = .ok (.iconst 1, 1) := by decide +kernel
theorem dX6_readKing_82 : decode cX6_readKing 82 = .ok (.ireturn, 1) := by decide +kernel
theorem dX6_readNumber_0 : decode cX6_readNumber 0 = .ok (.aload_n 0, 1) := by decide +kernel
theorem dX6_readNumber_1 : decode cX6_readNumber 1 = .ok (.bipush (-3), 2) := by decide +kernel
theorem dX6_readNumber_3 : decode cX6_readNumber 3 = .ok (.putfield 37, 3) := by decide +kernel
theorem dX6_readNumber_6 : decode cX6_readNumber 6 = .ok (.aload_n 0, 1) := by decide +kernel
theorem dX6_readNumber_7 : decode cX6_readNumber 7 = .ok (.iconst 0, 1) := by decide +kernel
theorem dX6_readNumber_8 : decode cX6_readNumber 8 = .ok (.putfield 145, 3) := by decide +kernel
theorem dX6_readNumber_11 : decode cX6_readNumber 11 = .ok (.aload_n 0, 1) := by decide +kernel
theorem dX6_readNumber_12 : decode cX6_readNumber 12 = .ok (.getfield 15, 3) := by decide +kernel
theorem dX6_readNumber_15 : decode cX6_readNumber 15 = .ok (.aload_n 0, 1) := by decide +kernel
theorem dX6_readNumber_16 : decode cX6_readNumber 16 = .ok (.getfield 31, 3) := by decide +kernel
theorem dX6_readNumber_19 : decode cX6_readNumber 19 = .ok (.invokevirtual 148, 3) := by decide +kernel
theorem dX6_readNumber_22 : decode cX6_readNumber 22 = .ok (.istore_n 1, 1) := by decide +kernel
theorem dX6_readNumber_23 : decode cX6_readNumber 23 = .ok (.aload_n 0, 1) := by decide +kernel
theorem dX6_readNumber_24 : decode cX6_readNumber 24 = .ok (.getfield 31, 3) := by decide +kernel
theorem dX6_readNumber_27 : decode cX6_readNumber 27 = .ok (.sipush 1400, 3) := by decide +kernel
theorem dX6_readNumber_30 : decode cX6_readNumber 30 = .ok (.if_icmp .ge 61, 3) := by decide +kernel
theorem dX6_readNumber_33 : decode cX6_readNumber 33 = .ok (.iload_n 1, 1) := by decide +kernel
theorem dX6_readNumber_34 : decode cX6_readNumber 34 = .ok (.bipush 48, 2) := by decide +kernel
theorem dX6_readNumber_36 : decode cX6_readNumber 36 = .ok (.if_icmp .lt 55, 3) := by decide +kernel
theorem dX6_readNumber_39 : decode cX6_readNumber 39 = .ok (.iload_n 1, 1) := by decide +kernel
theorem dX6_readNumber_40 : decode cX6_readNumber 40 = .ok (.bipush 57, 2) := by decide +kernel
theorem dX6_readNumber_42 : decode cX6_readNumber 42 = .ok (.if_icmp .gt 49, 3) := by decide +kernel
theorem dX6_readNumber_45 : decode cX6_readNumber 45 = .ok (.aload_n 0, 1) := by decide +kernel
theorem dX6_readNumber_46 : decode cX6_readNumber 46 = .ok (.ldc 160, 2) := by decide +kernel
theorem dX6_readNumber_48 : decode cX6_readNumber 48 = .ok (.aload_n 0, 1) := by decide +kernel
theorem dX6_readNumber_49 : decode cX6_readNumber 49 = .ok (.getfield 145, 3) := by decide +kernel
theorem dX6_readNumber_52 : decode cX6_readNumber 52 = .ok (.bipush 10, 2) := by decide +kernel
theorem dX6_readNumber_54 : decode cX6_readNumber 54 = .ok (.imul, 1) := by decide +kernel
theorem dX6_readNumber_55 : decode cX6_readNumber 55 = .ok (.iload_n 1, 1) := by decide +kernel
theorem dX6_readNumber_56 : decode cX6_readNumber 56 = .ok (.iadd, 1) := by decide +kernel
theorem dX6_readNumber_57 : decode cX6_readNumber 57 = .ok (.bipush 48, 2) := by decide +kernel
theorem dX6_readNumber_59 : decode cX6_readNumber 59 = .ok (.isub, 1) := by decide +kernel
theorem dX6_readNumber_60 : decode cX6_readNumber 60 = .ok (.invokestatic 161, 3) := by decide +kernel
theorem dX6_readNumber_63 : decode cX6_readNumber 63 = .ok (.putfield 145, 3) := by decide +kernel
theorem dX6_readNumber_66 : decode cX6_readNumber 66 = .ok (.aload_n 0, 1) := by decide +kernel
theorem dX6_readNumber_67 : decode cX6_readNumber 67 = .ok (.dup, 1) := by decide +kernel
theorem dX6_readNumber_68 : decode cX6_readNumber 68 = .ok (.getfield 31, 3) := by decide +kernel
theorem dX6_readNumber_71 : decode cX6_readNumber 71 = .ok (.iconst 1, 1) := by decide +kernel
theorem dX6_readNumber_72 : decode cX6_readNumber 72 = .ok (.iadd, 1) := by decide +kernel
theorem dX6_readNumber_73 : decode cX6_readNumber 73 = .ok (.putfield 31, 3) := by decide +kernel
theorem dX6_readNumber_76 : decode cX6_readNumber 76 = .ok (.aload_n 0, 1) := by decide +kernel
theorem dX6_readNumber_77 : decode cX6_readNumber 77 = .ok (.getfield 15, 3) := by decide +kernel
theorem dX6_readNumber_80 : decode cX6_readNumber 80 = .ok (.aload_n 0, 1) := by decide +kernel
theorem dX6_readNumber_81 : decode cX6_readNumber 81 = .ok (.getfield 31, 3) := by decide +kernel
theorem dX6_readNumber_84 : decode cX6_readNumber 84 = .ok (.invokevirtual 148, 3) := by decide +kernel
theorem dX6_readNumber_87 : decode cX6_readNumber 87 = .ok (.istore_n 1, 1) := by decide +kernel
theorem dX6_readNumber_88 : decode cX6_readNumber 88 = .ok (.goto (-65), 3) := by decide +kernel
theorem dX6_readNumber_91 : decode cX6_readNumber 91 = .ok (.return_, 1) := by decide +kernel
theorem dX6_readPlace_0 : decode cX6_readPlace 0 = .ok (.aload_n 0, 1) := by decide +kernel
theorem dX6_readPlace_1 : decode cX6_readPlace 1 = .ok (.getfield 19, 3) := by decide +kernel
theorem dX6_readPlace_4 : decode cX6_readPlace 4 = .ok (.getfield 81, 3) := by decide +kernel
theorem dX6_readPlace_7 : decode cX6_readPlace 7 = .ok (.istore_n 1, 1) := by decide +kernel
theorem dX6_readPlace_8 : decode cX6_readPlace 8 = .ok (.iload_n 1, 1) := by decide +kernel
theorem dX6_readPlace_9 : decode cX6_readPlace 9 = .ok (.bipush 9, 2) := by decide +kernel
theorem dX6_readPlace_11 : decode cX6_readPlace 11 = .ok (.if_icmp .lt 13, 3) := by decide +kernel
theorem dX6_readPlace_14 : decode cX6_readPlace 14 = .ok (.aload_n 0, 1) := by decide +kernel
theorem dX6_readPlace_15 : decode cX6_readPlace 15 = .ok (.iconst 3, 1) := by decide +kernel
theorem dX6_readPlace_16 : decode cX6_readPlace 16 = .ok (.aload_n 0, 1) := by decide +kernel
theorem dX6_readPlace_17 : decode cX6_readPlace 17 = .ok (.getfield 84, 3) := by decide +kernel
theorem dX6_readPlace_20 : decode cX6_readPlace 20 = .ok (.invokevirtual 87, 3) := by decide +kernel
theorem dX6_readPlace_23 : decode cX6_readPlace 23 = .ok (.ireturn, 1) := by decide +kernel
theorem dX6_readPlace_24 : decode cX6_readPlace 24 = .ok (.aload_n 0, 1) := by decide +kernel
theorem dX6_readPlace_25 : decode cX6_readPlace 25 = .ok (.ldc 47, 2) := by decide +kernel
theorem dX6_readPlace_27 : decode cX6_readPlace 27 = .ok (.invokevirtual 58, 3) := by decide +kernel
theorem dX6_readPlace_30 : decode cX6_readPlace 30 = .ok (.ifCond .eq 20, 3) := by decide +kernel
theorem dX6_readPlace_33 : decode cX6_readPlace 33 = .ok (.aload_n 0, 1) := by decide +kernel
theorem dX6_readPlace_34 : decode cX6_readPlace 34 = .ok (.iconst 0, 1) := by decide +kernel
theorem dX6_readPlace_35 : decode cX6_readPlace 35 = .ok (.aload_n 0, 1) := by decide +kernel
theorem dX6_readPlace_36 : decode cX6_readPlace 36 = .ok (.getfield 19, 3) := by decide +kernel
theorem dX6_readPlace_39 : decode cX6_readPlace 39 = .ok (.getfield 71, 3) := by decide +kernel
theorem dX6_readPlace_42 : decode cX6_readPlace 42 = .ok (.iconst 1, 1) := by decide +kernel
theorem dX6_readPlace_43 : decode cX6_readPlace 43 = .ok (.isub, 1) := by decide +kernel
theorem dX6_readPlace_44 : decode cX6_readPlace 44 = .ok (.invokevirtual 64, 3) := by decide +kernel
theorem dX6_readPlace_47 : decode cX6_readPlace 47 = .ok (.ifCond .ne 5, 3) := by decide +kernel
theorem dX6_readPlace_50 : decode cX6_readPlace 50 = .ok (.iconst 0, 1) := by decide +kernel
theorem dX6_readPlace_51 : decode cX6_readPlace 51 = .ok (.ireturn, 1) := by decide +kernel
theorem dX6_readPlace_52 : decode cX6_readPlace 52 = .ok (.aload_n 0, 1) := by decide +kernel
theorem dX6_readPlace_53 : decode cX6_readPlace 53 = .ok (.getfield 19, 3) := by decide +kernel
theorem dX6_readPlace_56 : decode cX6_readPlace 56 = .ok (.getfield 90, 3) := by decide +kernel
theorem dX6_readPlace_59 : decode cX6_readPlace 59 = .ok (.iload_n 1, 1) := by decide +kernel
theorem dX6_readPlace_60 : decode cX6_readPlace 60 = .ok (.aload_n 0, 1) := by decide +kernel
theorem dX6_readPlace_61 : decode cX6_readPlace 61 = .ok (.getfield 68, 3) := by decide +kernel
theorem dX6_readPlace_64 : decode cX6_readPlace 64 = .ok (.iastore, 1) := by decide +kernel
theorem dX6_readPlace_65 : decode cX6_readPlace 65 = .ok (.aload_n 0, 1) := by decide +kernel
theorem dX6_readPlace_66 : decode cX6_readPlace 66 = .ok (.iconst 0, 1) := by decide +kernel
theorem dX6_readPlace_67 : decode cX6_readPlace 67 = .ok (.aload_n 0, 1) := by decide +kernel
theorem dX6_readPlace_68 : decode cX6_readPlace 68 = .ok (.getfield 19, 3) := by decide +kernel
theorem dX6_readPlace_71 : decode cX6_readPlace 71 = .ok (.getfield 75, 3) := by decide +kernel
theorem dX6_readPlace_74 : decode cX6_readPlace 74 = .ok (.iconst 1, 1) := by decide +kernel
theorem dX6_readPlace_75 : decode cX6_readPlace 75 = .ok (.isub, 1) := by decide +kernel
theorem dX6_readPlace_76 : decode cX6_readPlace 76 = .ok (.invokevirtual 64, 3) := by decide +kernel
theorem dX6_readPlace_79 : decode cX6_readPlace 79 = .ok (.ifCond .ne 5, 3) := by decide +kernel
theorem dX6_readPlace_82 : decode cX6_readPlace 82 = .ok (.iconst 0, 1) := by decide +kernel
theorem dX6_readPlace_83 : decode cX6_readPlace 83 = .ok (.ireturn, 1) := by decide +kernel
theorem dX6_readPlace_84 : decode cX6_readPlace 84 = .ok (.aload_n 0, 1) := by decide +kernel
theorem dX6_readPlace_85 : decode cX6_readPlace 85 = .ok (.getfield 19, 3) := by decide +kernel
theorem dX6_readPlace_88 : decode cX6_readPlace 88 = .ok (.getfield 94, 3) := by decide +kernel
theorem dX6_readPlace_91 : decode cX6_readPlace 91 = .ok (.iload_n 1, 1) := by decide +kernel
theorem dX6_readPlace_92 : decode cX6_readPlace 92 = .ok (.aload_n 0, 1) := by decide +kernel
theorem dX6_readPlace_93 : decode cX6_readPlace 93 = .ok (.getfield 68, 3) := by decide +kernel
theorem dX6_readPlace_96 : decode cX6_readPlace 96 = .ok (.iastore, 1) := by decide +kernel
theorem dX6_readPlace_97 : decode cX6_readPlace 97 = .ok (.aload_n 0, 1) := by decide +kernel
theorem dX6_readPlace_98 : decode cX6_readPlace 98 = .ok (.getfield 19, 3) := by decide +kernel
theorem dX6_readPlace_101 : decode cX6_readPlace 101 = .ok (.iload_n 1, 1) := by decide +kernel
theorem dX6_readPlace_102 : decode cX6_readPlace 102 = .ok (.invokevirtual 97, 3) := by decide +kernel
theorem dX6_readPlace_105 : decode cX6_readPlace 105 = .ok (.ifCond .eq 13, 3) := by decide +kernel
theorem dX6_readPlace_108 : decode cX6_readPlace 108 = .ok (.aload_n 0, 1) := by decide +kernel
theorem dX6_readPlace_109 : decode cX6_readPlace 109 = .ok (.iconst 2, 1) := by decide +kernel
theorem dX6_readPlace_110 : decode cX6_readPlace 110 = .ok (.aload_n 0, 1) := by decide +kernel
theorem dX6_readPlace_111 : decode cX6_readPlace 111 = .ok (.getfield 100, 3) := by decide +kernel
theorem dX6_readPlace_114 : decode cX6_readPlace 114 = .ok (.invokevirtual 87, 3) := by decide +kernel
theorem dX6_readPlace_117 : decode cX6_readPlace 117 = .ok (.ireturn, 1) := by decide +kernel
theorem dX6_readPlace_118 : decode cX6_readPlace 118 = .ok (.aload_n 0, 1) := by decide +kernel
theorem dX6_readPlace_119 : decode cX6_readPlace 119 = .ok (.sipush 655, 3) := by decide +kernel
theorem dX6_readPlace_122 : decode cX6_readPlace 122 = .ok (.invokevirtual 58, 3) := by decide +kernel
theorem dX6_readPlace_125 : decode cX6_readPlace 125 = .ok (.ifCond .eq 12, 3) := by decide +kernel
theorem dX6_readPlace_128 : decode cX6_readPlace 128 = .ok (.aload_n 0, 1) := by decide +kernel
theorem dX6_readPlace_129 : decode cX6_readPlace 129 = .ok (.iconst 0, 1) := by decide +kernel
theorem dX6_readPlace_130 : decode cX6_readPlace 130 = .ok (.iconst 4, 1) := by decide +kernel
theorem dX6_readPlace_131 : decode cX6_readPlace 131 = .ok (.invokevirtual 64, 3) := by decide +kernel
theorem dX6_readPlace_134 : decode cX6_readPlace 134 = .ok (.ifCond .ne 5, 3) := by decide +kernel
theorem dX6_readPlace_137 : decode cX6_readPlace 137 = .ok (.iconst 0, 1) := by decide +kernel
theorem dX6_readPlace_138 : decode cX6_readPlace 138 = .ok (.ireturn, 1) := by decide +kernel
theorem dX6_readPlace_139 : decode cX6_readPlace 139 = .ok (.aload_n 0, 1) := by decide +kernel
theorem dX6_readPlace_140 : decode cX6_readPlace 140 = .ok (.getfield 19, 3) := by decide +kernel
theorem dX6_readPlace_143 : decode cX6_readPlace 143 = .ok (.getfield 103, 3) := by decide +kernel
theorem dX6_readPlace_146 : decode cX6_readPlace 146 = .ok (.iload_n 1, 1) := by decide +kernel
theorem dX6_readPlace_147 : decode cX6_readPlace 147 = .ok (.aload_n 0, 1) := by decide +kernel
theorem dX6_readPlace_148 : decode cX6_readPlace 148 = .ok (.getfield 68, 3) := by decide +kernel
theorem dX6_readPlace_151 : decode cX6_readPlace 151 = .ok (.iastore, 1) := by decide +kernel
theorem dX6_readPlace_152 : decode cX6_readPlace 152 = .ok (.aload_n 0, 1) := by decide +kernel
theorem dX6_readPlace_153 : decode cX6_readPlace 153 = .ok (.ldc 106, 2) := by decide +kernel
theorem dX6_readPlace_155 : decode cX6_readPlace 155 = .ok (.invokevirtual 58, 3) := by decide +kernel
theorem dX6_readPlace_158 : decode cX6_readPlace 158 = .ok (.ifCond .eq 13, 3) := by decide +kernel
theorem dX6_readPlace_161 : decode cX6_readPlace 161 = .ok (.aload_n 0, 1) := by decide +kernel
theorem dX6_readPlace_162 : decode cX6_readPlace 162 = .ok (.iconst 0, 1) := by decide +kernel
theorem dX6_readPlace_163 : decode cX6_readPlace 163 = .ok (.bipush 8, 2) := by decide +kernel
theorem dX6_readPlace_165 : decode cX6_readPlace 165 = .ok (.invokevirtual 64, 3) := by decide +kernel
theorem dX6_readPlace_168 : decode cX6_readPlace 168 = .ok (.ifCond .ne 5, 3) := by decide +kernel
theorem dX6_readPlace_171 : decode cX6_readPlace 171 = .ok (.iconst 0, 1) := by decide +kernel
theorem dX6_readPlace_172 : decode cX6_readPlace 172 = .ok (.ireturn, 1) := by decide +kernel
theorem dX6_readPlace_173 : decode cX6_readPlace 173 = .ok (.aload_n 0, 1) := by decide +kernel
theorem dX6_readPlace_174 : decode cX6_readPlace 174 = .ok (.getfield 19, 3) := by decide +kernel
theorem dX6_readPlace_177 : decode cX6_readPlace 177 = .ok (.getfield 107, 3) := by decide +kernel
theorem dX6_readPlace_180 : decode cX6_readPlace 180 = .ok (.iload_n 1, 1) := by decide +kernel
theorem dX6_readPlace_181 : decode cX6_readPlace 181 = .ok (.aload_n 0, 1) := by decide +kernel
theorem dX6_readPlace_182 : decode cX6_readPlace 182 = .ok (.getfield 68, 3) := by decide +kernel
theorem dX6_readPlace_185 : decode cX6_readPlace 185 = .ok (.iastore, 1) := by decide +kernel
theorem dX6_readPlace_186 : decode cX6_readPlace 186 = .ok (.aload_n 0, 1) := by decide +kernel
theorem dX6_readPlace_187 : decode cX6_readPlace 187 = .ok (.getfield 19, 3) := by decide +kernel
theorem dX6_readPlace_190 : decode cX6_readPlace 190 = .ok (.dup, 1) := by decide +kernel
theorem dX6_readPlace_191 : decode cX6_readPlace 191 = .ok (.getfield 81, 3) := by decide +kernel
theorem dX6_readPlace_194 : decode cX6_readPlace 194 = .ok (.iconst 1, 1) := by decide +kernel
theorem dX6_readPlace_195 : decode cX6_readPlace 195 = .ok (.iadd, 1) := by decide +kernel
theorem dX6_readPlace_196 : decode cX6_readPlace 196 = .ok (.putfield 81, 3) := by decide +kernel
theorem dX6_readPlace_199 : decode cX6_readPlace 199 = .ok (.iconst 1, 1) := by decide +kernel
theorem dX6_readPlace_200 : decode cX6_readPlace 200 = .ok (.ireturn, 1) := by decide +kernel
theorem dX6_readSits_0 : decode cX6_readSits 0 = .ok (.aload_n 0, 1) := by decide +kernel
theorem dX6_readSits_1 : decode cX6_readSits 1 = .ok (.ldc 133, 2) := by decide +kernel
theorem dX6_readSits_3 : decode cX6_readSits 3 = .ok (.invokevirtual 58, 3) := by decide +kernel
theorem dX6_readSits_6 : decode cX6_readSits 6 = .ok (.ifCond .eq 20, 3) := by decide +kernel
theorem dX6_readSits_9 : decode cX6_readSits 9 = .ok (.aload_n 0, 1) := by decide +kernel
theorem dX6_readSits_10 : decode cX6_readSits 10 = .ok (.iconst 0, 1) := by decide +kernel
theorem dX6_readSits_11 : decode cX6_readSits 11 = .ok (.aload_n 0, 1) := by decide +kernel
theorem dX6_readSits_12 : decode cX6_readSits 12 = .ok (.getfield 19, 3) := by decide +kernel
theorem dX6_readSits_15 : decode cX6_readSits 15 = .ok (.getfield 71, 3) := by decide +kernel
theorem dX6_readSits_18 : decode cX6_readSits 18 = .ok (.iconst 1, 1) := by decide +kernel
theorem dX6_readSits_19 : decode cX6_readSits 19 = .ok (.isub, 1) := by decide +kernel
theorem dX6_readSits_20 : decode cX6_readSits 20 = .ok (.invokevirtual 64, 3) := by decide +kernel
theorem dX6_readSits_23 : decode cX6_readSits 23 = .ok (.ifCond .ne 5, 3) := by decide +kernel
theorem dX6_readSits_26 : decode cX6_readSits 26 = .ok (.iconst 0, 1) := by decide +kernel
theorem dX6_readSits_27 : decode cX6_readSits 27 = .ok (.ireturn, 1) := by decide +kernel
theorem dX6_readSits_28 : decode cX6_readSits 28 = .ok (.aload_n 0, 1) := by decide +kernel
theorem dX6_readSits_29 : decode cX6_readSits 29 = .ok (.getfield 68, 3) := by decide +kernel
theorem dX6_readSits_32 : decode cX6_readSits 32 = .ok (.istore_n 1, 1) := by decide +kernel
theorem dX6_readSits_33 : decode cX6_readSits 33 = .ok (.aload_n 0, 1) := by decide +kernel
theorem dX6_readSits_34 : decode cX6_readSits 34 = .ok (.iconst 0, 1) := by decide +kernel
theorem dX6_readSits_35 : decode cX6_readSits 35 = .ok (.aload_n 0, 1) := by decide +kernel
theorem dX6_readSits_36 : decode cX6_readSits 36 = .ok (.getfield 19, 3) := by decide +kernel
theorem dX6_readSits_39 : decode cX6_readSits 39 = .ok (.getfield 75, 3) := by decide +kernel
theorem dX6_readSits_42 : decode cX6_readSits 42 = .ok (.iconst 1, 1) := by decide +kernel
theorem dX6_readSits_43 : decode cX6_readSits 43 = .ok (.isub, 1) := by decide +kernel
theorem dX6_readSits_44 : decode cX6_readSits 44 = .ok (.invokevirtual 64, 3) := by decide +kernel
theorem dX6_readSits_47 : decode cX6_readSits 47 = .ok (.ifCond .ne 5, 3) := by decide +kernel
theorem dX6_readSits_50 : decode cX6_readSits 50 = .ok (.iconst 0, 1) := by decide +kernel
theorem dX6_readSits_51 : decode cX6_readSits 51 = .ok (.ireturn, 1) := by decide +kernel
theorem dX6_readSits_52 : decode cX6_readSits 52 = .ok (.iload_n 1, 1) := by decide +kernel
theorem dX6_readSits_53 : decode cX6_readSits 53 = .ok (.aload_n 0, 1) := by decide +kernel
theorem dX6_readSits_54 : decode cX6_readSits 54 = .ok (.getfield 68, 3) := by decide +kernel
theorem dX6_readSits_57 : decode cX6_readSits 57 = .ok (.invokestatic 134, 3) := by decide +kernel
theorem dX6_readSits_60 : decode cX6_readSits 60 = .ok (.istore_n 2, 1) := by decide +kernel
theorem dX6_readSits_61 : decode cX6_readSits 61 = .ok (.aload_n 0, 1) := by decide +kernel
theorem dX6_readSits_62 : decode cX6_readSits 62 = .ok (.getfield 19, 3) := by decide +kernel
theorem dX6_readSits_65 : decode cX6_readSits 65 = .ok (.iload_n 2, 1) := by decide +kernel
theorem dX6_readSits_66 : decode cX6_readSits 66 = .ok (.invokevirtual 138, 3) := by decide +kernel
theorem dX6_readSits_69 : decode cX6_readSits 69 = .ok (.ifCond .eq 13, 3) := by decide +kernel
theorem dX6_readSits_72 : decode cX6_readSits 72 = .ok (.aload_n 0, 1) := by decide +kernel
theorem dX6_readSits_73 : decode cX6_readSits 73 = .ok (.iconst 2, 1) := by decide +kernel
theorem dX6_readSits_74 : decode cX6_readSits 74 = .ok (.aload_n 0, 1) := by decide +kernel
theorem dX6_readSits_75 : decode cX6_readSits 75 = .ok (.getfield 100, 3) := by decide +kernel
theorem dX6_readSits_78 : decode cX6_readSits 78 = .ok (.invokevirtual 87, 3) := by decide +kernel
theorem dX6_readSits_81 : decode cX6_readSits 81 = .ok (.ireturn, 1) := by decide +kernel
theorem dX6_readSits_82 : decode cX6_readSits 82 = .ok (.aload_n 0, 1) := by decide +kernel
theorem dX6_readSits_83 : decode cX6_readSits 83 = .ok (.getfield 19, 3) := by decide +kernel
theorem dX6_readSits_86 : decode cX6_readSits 86 = .ok (.iload_n 2, 1) := by decide +kernel
theorem dX6_readSits_87 : decode cX6_readSits 87 = .ok (.iconst 1, 1) := by decide +kernel
theorem dX6_readSits_88 : decode cX6_readSits 88 = .ok (.invokevirtual 141, 3) := by decide +kernel
theorem dX6_readSits_91 : decode cX6_readSits 91 = .ok (.iconst 1, 1) := by decide +kernel
theorem dX6_readSits_92 : decode cX6_readSits 92 = .ok (.ireturn, 1) := by decide +kernel
theorem dX6_readWord_0 : decode cX6_readWord 0 = .ok (.aload_n 0, 1) := by decide +kernel
theorem dX6_readWord_1 : decode cX6_readWord 1 = .ok (.iconst 0, 1) := by decide +kernel
theorem dX6_readWord_2 : decode cX6_readWord 2 = .ok (.putfield 37, 3) := by decide +kernel
theorem dX6_readWord_5 : decode cX6_readWord 5 = .ok (.aload_n 0, 1) := by decide +kernel
theorem dX6_readWord_6 : decode cX6_readWord 6 = .ok (.getfield 15, 3) := by decide +kernel
theorem dX6_readWord_9 : decode cX6_readWord 9 = .ok (.aload_n 0, 1) := by decide +kernel
theorem dX6_readWord_10 : decode cX6_readWord 10 = .ok (.getfield 31, 3) := by decide +kernel
theorem dX6_readWord_13 : decode cX6_readWord 13 = .ok (.invokevirtual 148, 3) := by decide +kernel
theorem dX6_readWord_16 : decode cX6_readWord 16 = .ok (.istore_n 1, 1) := by decide +kernel
theorem dX6_readWord_17 : decode cX6_readWord 17 = .ok (.aload_n 0, 1) := by decide +kernel
theorem dX6_readWord_18 : decode cX6_readWord 18 = .ok (.getfield 31, 3) := by decide +kernel
theorem dX6_readWord_21 : decode cX6_readWord 21 = .ok (.sipush 1400, 3) := by decide +kernel
theorem dX6_readWord_24 : decode cX6_readWord 24 = .ok (.if_icmp .ge 71, 3) := by decide +kernel
theorem dX6_readWord_27 : decode cX6_readWord 27 = .ok (.iload_n 1, 1) := by decide +kernel
theorem dX6_readWord_28 : decode cX6_readWord 28 = .ok (.bipush 97, 2) := by decide +kernel
theorem dX6_readWord_30 : decode cX6_readWord 30 = .ok (.if_icmp .lt 65, 3) := by decide +kernel
theorem dX6_readWord_33 : decode cX6_readWord 33 = .ok (.iload_n 1, 1) := by decide +kernel
theorem dX6_readWord_34 : decode cX6_readWord 34 = .ok (.bipush 122, 2) := by decide +kernel
theorem dX6_readWord_36 : decode cX6_readWord 36 = .ok (.if_icmp .gt 59, 3) := by decide +kernel
theorem dX6_readWord_39 : decode cX6_readWord 39 = .ok (.aload_n 0, 1) := by decide +kernel
theorem dX6_readWord_40 : decode cX6_readWord 40 = .ok (.getfield 31, 3) := by decide +kernel
theorem dX6_readWord_43 : decode cX6_readWord 43 = .ok (.aload_n 0, 1) := by decide +kernel
theorem dX6_readWord_44 : decode cX6_readWord 44 = .ok (.getfield 84, 3) := by decide +kernel
theorem dX6_readWord_47 : decode cX6_readWord 47 = .ok (.isub, 1) := by decide +kernel
theorem dX6_readWord_48 : decode cX6_readWord 48 = .ok (.iconst 5, 1) := by decide +kernel
theorem dX6_readWord_49 : decode cX6_readWord 49 = .ok (.if_icmp .ge 21, 3) := by decide +kernel
theorem dX6_readWord_52 : decode cX6_readWord 52 = .ok (.aload_n 0, 1) := by decide +kernel
theorem dX6_readWord_53 : decode cX6_readWord 53 = .ok (.aload_n 0, 1) := by decide +kernel
theorem dX6_readWord_54 : decode cX6_readWord 54 = .ok (.getfield 37, 3) := by decide +kernel
theorem dX6_readWord_57 : decode cX6_readWord 57 = .ok (.bipush 32, 2) := by decide +kernel
theorem dX6_readWord_59 : decode cX6_readWord 59 = .ok (.imul, 1) := by decide +kernel
theorem dX6_readWord_60 : decode cX6_readWord 60 = .ok (.iload_n 1, 1) := by decide +kernel
theorem dX6_readWord_61 : decode cX6_readWord 61 = .ok (.iadd, 1) := by decide +kernel
theorem dX6_readWord_62 : decode cX6_readWord 62 = .ok (.bipush 97, 2) := by decide +kernel
theorem dX6_readWord_64 : decode cX6_readWord 64 = .ok (.isub, 1) := by decide +kernel
theorem dX6_readWord_65 : decode cX6_readWord 65 = .ok (.iconst 1, 1) := by decide +kernel
theorem dX6_readWord_66 : decode cX6_readWord 66 = .ok (.iadd, 1) := by decide +kernel
theorem dX6_readWord_67 : decode cX6_readWord 67 = .ok (.putfield 37, 3) := by decide +kernel
theorem dX6_readWord_70 : decode cX6_readWord 70 = .ok (.aload_n 0, 1) := by decide +kernel
theorem dX6_readWord_71 : decode cX6_readWord 71 = .ok (.dup, 1) := by decide +kernel
theorem dX6_readWord_72 : decode cX6_readWord 72 = .ok (.getfield 31, 3) := by decide +kernel
theorem dX6_readWord_75 : decode cX6_readWord 75 = .ok (.iconst 1, 1) := by decide +kernel
theorem dX6_readWord_76 : decode cX6_readWord 76 = .ok (.iadd, 1) := by decide +kernel
theorem dX6_readWord_77 : decode cX6_readWord 77 = .ok (.putfield 31, 3) := by decide +kernel
theorem dX6_readWord_80 : decode cX6_readWord 80 = .ok (.aload_n 0, 1) := by decide +kernel
theorem dX6_readWord_81 : decode cX6_readWord 81 = .ok (.getfield 15, 3) := by decide +kernel
theorem dX6_readWord_84 : decode cX6_readWord 84 = .ok (.aload_n 0, 1) := by decide +kernel
theorem dX6_readWord_85 : decode cX6_readWord 85 = .ok (.getfield 31, 3) := by decide +kernel
theorem dX6_readWord_88 : decode cX6_readWord 88 = .ok (.invokevirtual 148, 3) := by decide +kernel
theorem dX6_readWord_91 : decode cX6_readWord 91 = .ok (.istore_n 1, 1) := by decide +kernel
theorem dX6_readWord_92 : decode cX6_readWord 92 = .ok (.goto (-75), 3) := by decide +kernel
theorem dX6_readWord_95 : decode cX6_readWord 95 = .ok (.aload_n 0, 1) := by decide +kernel
theorem dX6_readWord_96 : decode cX6_readWord 96 = .ok (.getfield 31, 3) := by decide +kernel
theorem dX6_readWord_99 : decode cX6_readWord 99 = .ok (.aload_n 0, 1) := by decide +kernel
theorem dX6_readWord_100 : decode cX6_readWord 100 = .ok (.getfield 84, 3) := by decide +kernel
theorem dX6_readWord_103 : decode cX6_readWord 103 = .ok (.isub, 1) := by decide +kernel
theorem dX6_readWord_104 : decode cX6_readWord 104 = .ok (.iconst 5, 1) := by decide +kernel
theorem dX6_readWord_105 : decode cX6_readWord 105 = .ok (.if_icmp .le 9, 3) := by decide +kernel
theorem dX6_readWord_108 : decode cX6_readWord 108 = .ok (.aload_n 0, 1) := by decide +kernel
theorem dX6_readWord_109 : decode cX6_readWord 109 = .ok (.bipush (-2), 2) := by decide +kernel
theorem dX6_readWord_111 : decode cX6_readWord 111 = .ok (.putfield 37, 3) := by decide +kernel
theorem dX6_readWord_114 : decode cX6_readWord 114 = .ok (.return_, 1) := by decide +kernel
theorem dX6_refuse_0 : decode cX6_refuse 0 = .ok (.aload_n 0, 1) := by decide +kernel
theorem dX6_refuse_1 : decode cX6_refuse 1 = .ok (.iload_n 1, 1) := by decide +kernel
theorem dX6_refuse_2 : decode cX6_refuse 2 = .ok (.putfield 28, 3) := by decide +kernel
theorem dX6_refuse_5 : decode cX6_refuse 5 = .ok (.aload_n 0, 1) := by decide +kernel
theorem dX6_refuse_6 : decode cX6_refuse 6 = .ok (.iload_n 2, 1) := by decide +kernel
theorem dX6_refuse_7 : decode cX6_refuse 7 = .ok (.putfield 9, 3) := by decide +kernel
theorem dX6_refuse_10 : decode cX6_refuse 10 = .ok (.iconst 0, 1) := by decide +kernel
theorem dX6_refuse_11 : decode cX6_refuse 11 = .ok (.ireturn, 1) := by decide +kernel
theorem dX6_take_0 : decode cX6_take 0 = .ok (.aload_n 0, 1) := by decide +kernel
theorem dX6_take_1 : decode cX6_take 1 = .ok (.getfield 37, 3) := by decide +kernel
theorem dX6_take_4 : decode cX6_take 4 = .ok (.iload_n 1, 1) := by decide +kernel
theorem dX6_take_5 : decode cX6_take 5 = .ok (.if_icmp .eq 13, 3) := by decide +kernel
theorem dX6_take_8 : decode cX6_take 8 = .ok (.aload_n 0, 1) := by decide +kernel
theorem dX6_take_9 : decode cX6_take 9 = .ok (.iconst 1, 1) := by decide +kernel
theorem dX6_take_10 : decode cX6_take 10 = .ok (.aload_n 0, 1) := by decide +kernel
theorem dX6_take_11 : decode cX6_take 11 = .ok (.getfield 84, 3) := by decide +kernel
theorem dX6_take_14 : decode cX6_take 14 = .ok (.invokevirtual 87, 3) := by decide +kernel
theorem dX6_take_17 : decode cX6_take 17 = .ok (.ireturn, 1) := by decide +kernel
theorem dX6_take_18 : decode cX6_take 18 = .ok (.aload_n 0, 1) := by decide +kernel
theorem dX6_take_19 : decode cX6_take 19 = .ok (.invokevirtual 34, 3) := by decide +kernel
theorem dX6_take_22 : decode cX6_take 22 = .ok (.iconst 1, 1) := by decide +kernel
theorem dX6_take_23 : decode cX6_take 23 = .ok (.ireturn, 1) := by decide +kernel
theorem dX6_takeNumber_0 : decode cX6_takeNumber 0 = .ok (.aload_n 0, 1) := by decide +kernel
theorem dX6_takeNumber_1 : decode cX6_takeNumber 1 = .ok (.getfield 37, 3) := by decide +kernel
theorem dX6_takeNumber_4 : decode cX6_takeNumber 4 = .ok (.bipush (-3), 2) := by decide +kernel
theorem dX6_takeNumber_6 : decode cX6_takeNumber 6 = .ok (.if_icmp .eq 13, 3) := by decide +kernel
theorem dX6_takeNumber_9 : decode cX6_takeNumber 9 = .ok (.aload_n 0, 1) := by decide +kernel
theorem dX6_takeNumber_10 : decode cX6_takeNumber 10 = .ok (.iconst 1, 1) := by decide +kernel
theorem dX6_takeNumber_11 : decode cX6_takeNumber 11 = .ok (.aload_n 0, 1) := by decide +kernel
theorem dX6_takeNumber_12 : decode cX6_takeNumber 12 = .ok (.getfield 84, 3) := by decide +kernel
theorem dX6_takeNumber_15 : decode cX6_takeNumber 15 = .ok (.invokevirtual 87, 3) := by decide +kernel
theorem dX6_takeNumber_18 : decode cX6_takeNumber 18 = .ok (.ireturn, 1) := by decide +kernel
theorem dX6_takeNumber_19 : decode cX6_takeNumber 19 = .ok (.aload_n 0, 1) := by decide +kernel
theorem dX6_takeNumber_20 : decode cX6_takeNumber 20 = .ok (.aload_n 0, 1) := by decide +kernel
theorem dX6_takeNumber_21 : decode cX6_takeNumber 21 = .ok (.getfield 84, 3) := by decide +kernel
theorem dX6_takeNumber_24 : decode cX6_takeNumber 24 = .ok (.putfield 100, 3) := by decide +kernel
theorem dX6_takeNumber_27 : decode cX6_takeNumber 27 = .ok (.aload_n 0, 1) := by decide +kernel
theorem dX6_takeNumber_28 : decode cX6_takeNumber 28 = .ok (.getfield 145, 3) := by decide +kernel
theorem dX6_takeNumber_31 : decode cX6_takeNumber 31 = .ok (.iload_n 1, 1) := by decide +kernel
theorem dX6_takeNumber_32 : decode cX6_takeNumber 32 = .ok (.if_icmp .lt 11, 3) := by decide +kernel
theorem dX6_takeNumber_35 : decode cX6_takeNumber 35 = .ok (.aload_n 0, 1) := by decide +kernel
theorem dX6_takeNumber_36 : decode cX6_takeNumber 36 = .ok (.getfield 145, 3) := by decide +kernel
theorem dX6_takeNumber_39 : decode cX6_takeNumber 39 = .ok (.iload_n 2, 1) := by decide +kernel
theorem dX6_takeNumber_40 : decode cX6_takeNumber 40 = .ok (.if_icmp .le 13, 3) := by decide +kernel
theorem dX6_takeNumber_43 : decode cX6_takeNumber 43 = .ok (.aload_n 0, 1) := by decide +kernel
theorem dX6_takeNumber_44 : decode cX6_takeNumber 44 = .ok (.iconst 2, 1) := by decide +kernel
theorem dX6_takeNumber_45 : decode cX6_takeNumber 45 = .ok (.aload_n 0, 1) := by decide +kernel
theorem dX6_takeNumber_46 : decode cX6_takeNumber 46 = .ok (.getfield 100, 3) := by decide +kernel
theorem dX6_takeNumber_49 : decode cX6_takeNumber 49 = .ok (.invokevirtual 87, 3) := by decide +kernel
theorem dX6_takeNumber_52 : decode cX6_takeNumber 52 = .ok (.ireturn, 1) := by decide +kernel
theorem dX6_takeNumber_53 : decode cX6_takeNumber 53 = .ok (.aload_n 0, 1) := by decide +kernel
theorem dX6_takeNumber_54 : decode cX6_takeNumber 54 = .ok (.aload_n 0, 1) := by decide +kernel
theorem dX6_takeNumber_55 : decode cX6_takeNumber 55 = .ok (.getfield 145, 3) := by decide +kernel
theorem dX6_takeNumber_58 : decode cX6_takeNumber 58 = .ok (.putfield 68, 3) := by decide +kernel
theorem dX6_takeNumber_61 : decode cX6_takeNumber 61 = .ok (.aload_n 0, 1) := by decide +kernel
theorem dX6_takeNumber_62 : decode cX6_takeNumber 62 = .ok (.invokevirtual 34, 3) := by decide +kernel
theorem dX6_takeNumber_65 : decode cX6_takeNumber 65 = .ok (.iconst 1, 1) := by decide +kernel
theorem dX6_takeNumber_66 : decode cX6_takeNumber 66 = .ok (.ireturn, 1) := by decide +kernel
theorem dX6_tell_0 : decode cX6_tell 0 = .ok (.aload_n 0, 1) := by decide +kernel
theorem dX6_tell_1 : decode cX6_tell 1 = .ok (.aload_n 1, 1) := by decide +kernel
theorem dX6_tell_2 : decode cX6_tell 2 = .ok (.putfield 19, 3) := by decide +kernel
theorem dX6_tell_5 : decode cX6_tell 5 = .ok (.aload_n 0, 1) := by decide +kernel
theorem dX6_tell_6 : decode cX6_tell 6 = .ok (.getfield 19, 3) := by decide +kernel
theorem dX6_tell_9 : decode cX6_tell 9 = .ok (.invokevirtual 23, 3) := by decide +kernel
theorem dX6_tell_12 : decode cX6_tell 12 = .ok (.aload_n 0, 1) := by decide +kernel
theorem dX6_tell_13 : decode cX6_tell 13 = .ok (.iconst 0, 1) := by decide +kernel
theorem dX6_tell_14 : decode cX6_tell 14 = .ok (.putfield 28, 3) := by decide +kernel
theorem dX6_tell_17 : decode cX6_tell 17 = .ok (.aload_n 0, 1) := by decide +kernel
theorem dX6_tell_18 : decode cX6_tell 18 = .ok (.iconst (-1), 1) := by decide +kernel
theorem dX6_tell_19 : decode cX6_tell 19 = .ok (.putfield 9, 3) := by decide +kernel
theorem dX6_tell_22 : decode cX6_tell 22 = .ok (.aload_n 0, 1) := by decide +kernel
theorem dX6_tell_23 : decode cX6_tell 23 = .ok (.iconst 0, 1) := by decide +kernel
theorem dX6_tell_24 : decode cX6_tell 24 = .ok (.putfield 31, 3) := by decide +kernel
theorem dX6_tell_27 : decode cX6_tell 27 = .ok (.aload_n 0, 1) := by decide +kernel
theorem dX6_tell_28 : decode cX6_tell 28 = .ok (.invokevirtual 34, 3) := by decide +kernel
theorem dX6_tell_31 : decode cX6_tell 31 = .ok (.iconst 0, 1) := by decide +kernel
theorem dX6_tell_32 : decode cX6_tell 32 = .ok (.istore_n 2, 1) := by decide +kernel
theorem dX6_tell_33 : decode cX6_tell 33 = .ok (.iload_n 2, 1) := by decide +kernel
theorem dX6_tell_34 : decode cX6_tell 34 = .ok (.sipush 1400, 3) := by decide +kernel
theorem dX6_tell_37 : decode cX6_tell 37 = .ok (.if_icmp .gt 107, 3) := by decide +kernel
theorem dX6_tell_40 : decode cX6_tell 40 = .ok (.aload_n 0, 1) := by decide +kernel
theorem dX6_tell_41 : decode cX6_tell 41 = .ok (.getfield 37, 3) := by decide +kernel
theorem dX6_tell_44 : decode cX6_tell 44 = .ok (.iconst (-1), 1) := by decide +kernel
theorem dX6_tell_45 : decode cX6_tell 45 = .ok (.if_icmp .eq 99, 3) := by decide +kernel
theorem dX6_tell_48 : decode cX6_tell 48 = .ok (.aload_n 0, 1) := by decide +kernel
theorem dX6_tell_49 : decode cX6_tell 49 = .ok (.getfield 28, 3) := by decide +kernel
theorem dX6_tell_52 : decode cX6_tell 52 = .ok (.ifCond .ne 92, 3) := by decide +kernel
theorem dX6_tell_55 : decode cX6_tell 55 = .ok (.aload_n 0, 1) := by decide +kernel
theorem dX6_tell_56 : decode cX6_tell 56 = .ok (.getfield 19, 3) := by decide +kernel
theorem dX6_tell_59 : decode cX6_tell 59 = .ok (.getfield 40, 3) := by decide +kernel
theorem dX6_tell_62 : decode cX6_tell 62 = .ok (.ifCond .ne 11, 3) := by decide +kernel
theorem dX6_tell_65 : decode cX6_tell 65 = .ok (.aload_n 0, 1) := by decide +kernel
theorem dX6_tell_66 : decode cX6_tell 66 = .ok (.invokevirtual 43, 3) := by decide +kernel
theorem dX6_tell_69 : decode cX6_tell 69 = .ok (.istore_n 3, 1) := by decide +kernel
theorem dX6_tell_70 : decode cX6_tell 70 = .ok (.goto 42, 3) := by decide +kernel
theorem dX6_tell_73 : decode cX6_tell 73 = .ok (.aload_n 0, 1) := by decide +kernel
theorem dX6_tell_74 : decode cX6_tell 74 = .ok (.getfield 37, 3) := by decide +kernel
theorem dX6_tell_77 : decode cX6_tell 77 = .ok (.ldc 47, 2) := by decide +kernel
theorem dX6_tell_79 : decode cX6_tell 79 = .ok (.if_icmp .ne 11, 3) := by decide +kernel
theorem dX6_tell_82 : decode cX6_tell 82 = .ok (.aload_n 0, 1) := by decide +kernel
theorem dX6_tell_83 : decode cX6_tell 83 = .ok (.invokevirtual 48, 3) := by decide +kernel
theorem dX6_tell_86 : decode cX6_tell 86 = .ok (.istore_n 3, 1) := by decide +kernel
theorem dX6_tell_87 : decode cX6_tell 87 = .ok (.goto 25, 3) := by decide +kernel
theorem dX6_tell_90 : decode cX6_tell 90 = .ok (.aload_n 0, 1) := by decide +kernel
theorem dX6_tell_91 : decode cX6_tell 91 = .ok (.getfield 37, 3) := by decide +kernel
theorem dX6_tell_94 : decode cX6_tell 94 = .ok (.ldc 51, 2) := by decide +kernel
theorem dX6_tell_96 : decode cX6_tell 96 = .ok (.if_icmp .ne 11, 3) := by decide +kernel
theorem dX6_tell_99 : decode cX6_tell 99 = .ok (.aload_n 0, 1) := by decide +kernel
theorem dX6_tell_100 : decode cX6_tell 100 = .ok (.invokevirtual 52, 3) := by decide +kernel
theorem dX6_tell_103 : decode cX6_tell 103 = .ok (.istore_n 3, 1) := by decide +kernel
theorem dX6_tell_104 : decode cX6_tell 104 = .ok (.goto 8, 3) := by decide +kernel
theorem dX6_tell_107 : decode cX6_tell 107 = .ok (.aload_n 0, 1) := by decide +kernel
theorem dX6_tell_108 : decode cX6_tell 108 = .ok (.invokevirtual 55, 3) := by decide +kernel
theorem dX6_tell_111 : decode cX6_tell 111 = .ok (.istore_n 3, 1) := by decide +kernel
theorem dX6_tell_112 : decode cX6_tell 112 = .ok (.iload_n 3, 1) := by decide +kernel
theorem dX6_tell_113 : decode cX6_tell 113 = .ok (.ifCond .eq 25, 3) := by decide +kernel
theorem dX6_tell_116 : decode cX6_tell 116 = .ok (.aload_n 0, 1) := by decide +kernel
theorem dX6_tell_117 : decode cX6_tell 117 = .ok (.bipush (-4), 2) := by decide +kernel
theorem dX6_tell_119 : decode cX6_tell 119 = .ok (.invokevirtual 58, 3) := by decide +kernel
theorem dX6_tell_122 : decode cX6_tell 122 = .ok (.ifCond .eq 16, 3) := by decide +kernel
theorem dX6_tell_125 : decode cX6_tell 125 = .ok (.aload_n 0, 1) := by decide +kernel
theorem dX6_tell_126 : decode cX6_tell 126 = .ok (.getfield 19, 3) := by decide +kernel
theorem dX6_tell_129 : decode cX6_tell 129 = .ok (.dup, 1) := by decide +kernel
theorem dX6_tell_130 : decode cX6_tell 130 = .ok (.getfield 40, 3) := by decide +kernel
theorem dX6_tell_133 : decode cX6_tell 133 = .ok (.iconst 1, 1) := by decide +kernel
theorem dX6_tell_134 : decode cX6_tell 134 = .ok (.iadd, 1) := by decide +kernel
theorem dX6_tell_135 : decode cX6_tell 135 = .ok (.putfield 40, 3) := by decide +kernel
theorem dX6_tell_138 : decode cX6_tell 138 = .ok (.iinc 2 1, 3) := by decide +kernel
theorem dX6_tell_141 : decode cX6_tell 141 = .ok (.goto (-108), 3) := by decide +kernel
theorem dX6_tell_144 : decode cX6_tell 144 = .ok (.aload_n 0, 1) := by decide +kernel
theorem dX6_tell_145 : decode cX6_tell 145 = .ok (.getfield 28, 3) := by decide +kernel
theorem dX6_tell_148 : decode cX6_tell 148 = .ok (.ifCond .ne 7, 3) := by decide +kernel
theorem dX6_tell_151 : decode cX6_tell 151 = .ok (.iconst 1, 1) := by decide +kernel
theorem dX6_tell_152 : decode cX6_tell 152 = .ok (.goto 4, 3) := by decide +kernel
theorem dX6_tell_155 : decode cX6_tell 155 = .ok (.iconst 0, 1) := by decide +kernel
theorem dX6_tell_156 : decode cX6_tell 156 = .ok (.ireturn, 1) := by decide +kernel
theorem dX7_canStillEnd_0 : decode cX7_canStillEnd 0 = .ok (.iload_n 1, 1) := by decide +kernel
theorem dX7_canStillEnd_1 : decode cX7_canStillEnd 1 = .ok (.aload_n 0, 1) := by decide +kernel
theorem dX7_canStillEnd_2 : decode cX7_canStillEnd 2 = .ok (.getfield 15, 3) := by decide +kernel
theorem dX7_canStillEnd_5 : decode cX7_canStillEnd 5 = .ok (.iload_n 2, 1) := by decide +kernel
theorem dX7_canStillEnd_6 : decode cX7_canStillEnd 6 = .ok (.iaload, 1) := by decide +kernel
theorem dX7_canStillEnd_7 : decode cX7_canStillEnd 7 = .ok (.iadd, 1) := by decide +kernel
theorem dX7_canStillEnd_8 : decode cX7_canStillEnd 8 = .ok (.aload_n 0, 1) := by decide +kernel
theorem dX7_canStillEnd_9 : decode cX7_canStillEnd 9 = .ok (.getfield 129, 3) := by decide +kernel
theorem dX7_canStillEnd_12 : decode cX7_canStillEnd 12 = .ok (.if_icmp .ge 7, 3) := by decide +kernel
theorem dX7_canStillEnd_15 : decode cX7_canStillEnd 15 = .ok (.iconst 1, 1) := by decide +kernel
theorem dX7_canStillEnd_16 : decode cX7_canStillEnd 16 = .ok (.goto 4, 3) := by decide +kernel
theorem dX7_canStillEnd_19 : decode cX7_canStillEnd 19 = .ok (.iconst 0, 1) := by decide +kernel
theorem dX7_canStillEnd_20 : decode cX7_canStillEnd 20 = .ok (.ireturn, 1) := by decide +kernel
theorem dX7_comeIn_0 : decode cX7_comeIn 0 = .ok (.iconst 2, 1) := by decide +kernel
theorem dX7_comeIn_1 : decode cX7_comeIn 1 = .ok (.iload_n 1, 1) := by decide +kernel
theorem dX7_comeIn_2 : decode cX7_comeIn 2 = .ok (.imul, 1) := by decide +kernel
theorem dX7_comeIn_3 : decode cX7_comeIn 3 = .ok (.istore_n 2, 1) := by decide +kernel
theorem dX7_comeIn_4 : decode cX7_comeIn 4 = .ok (.iload_n 1, 1) := by decide +kernel
theorem dX7_comeIn_5 : decode cX7_comeIn 5 = .ok (.bipush 36, 2) := by decide +kernel
theorem dX7_comeIn_7 : decode cX7_comeIn 7 = .ok (.irem, 1) := by decide +kernel
theorem dX7_comeIn_8 : decode cX7_comeIn 8 = .ok (.istore_n 3, 1) := by decide +kernel
theorem dX7_comeIn_9 : decode cX7_comeIn 9 = .ok (.iload_n 1, 1) := by decide +kernel
theorem dX7_comeIn_10 : decode cX7_comeIn 10 = .ok (.iload_n 3, 1) := by decide +kernel
theorem dX7_comeIn_11 : decode cX7_comeIn 11 = .ok (.isub, 1) := by decide +kernel
theorem dX7_comeIn_12 : decode cX7_comeIn 12 = .ok (.bipush 36, 2) := by decide +kernel
theorem dX7_comeIn_14 : decode cX7_comeIn 14 = .ok (.isub, 1) := by decide +kernel
theorem dX7_comeIn_15 : decode cX7_comeIn 15 = .ok (.istore 4, 2) := by decide +kernel
theorem dX7_comeIn_17 : decode cX7_comeIn 17 = .ok (.aload_n 0, 1) := by decide +kernel
theorem dX7_comeIn_18 : decode cX7_comeIn 18 = .ok (.getfield 9, 3) := by decide +kernel
theorem dX7_comeIn_21 : decode cX7_comeIn 21 = .ok (.iload_n 3, 1) := by decide +kernel
theorem dX7_comeIn_22 : decode cX7_comeIn 22 = .ok (.iaload, 1) := by decide +kernel
theorem dX7_comeIn_23 : decode cX7_comeIn 23 = .ok (.ifCond .le 13, 3) := by decide +kernel
theorem dX7_comeIn_26 : decode cX7_comeIn 26 = .ok (.aload_n 0, 1) := by decide +kernel
theorem dX7_comeIn_27 : decode cX7_comeIn 27 = .ok (.iload_n 1, 1) := by decide +kernel
theorem dX7_comeIn_28 : decode cX7_comeIn 28 = .ok (.iload 4, 2) := by decide +kernel
theorem dX7_comeIn_30 : decode cX7_comeIn 30 = .ok (.invokevirtual 154, 3) := by decide +kernel
theorem dX7_comeIn_33 : decode cX7_comeIn 33 = .ok (.goto 56, 3) := by decide +kernel
theorem dX7_comeIn_36 : decode cX7_comeIn 36 = .ok (.aload_n 0, 1) := by decide +kernel
theorem dX7_comeIn_37 : decode cX7_comeIn 37 = .ok (.getfield 24, 3) := by decide +kernel
theorem dX7_comeIn_40 : decode cX7_comeIn 40 = .ok (.iload_n 1, 1) := by decide +kernel
theorem dX7_comeIn_41 : decode cX7_comeIn 41 = .ok (.iaload, 1) := by decide +kernel
theorem dX7_comeIn_42 : decode cX7_comeIn 42 = .ok (.iconst (-1), 1) := by decide +kernel
theorem dX7_comeIn_43 : decode cX7_comeIn 43 = .ok (.if_icmp .ne 14, 3) := by decide +kernel
theorem dX7_comeIn_46 : decode cX7_comeIn 46 = .ok (.aload_n 0, 1) := by decide +kernel
theorem dX7_comeIn_47 : decode cX7_comeIn 47 = .ok (.iload_n 2, 1) := by decide +kernel
theorem dX7_comeIn_48 : decode cX7_comeIn 48 = .ok (.iconst 1, 1) := by decide +kernel
theorem dX7_comeIn_49 : decode cX7_comeIn 49 = .ok (.iadd, 1) := by decide +kernel
theorem dX7_comeIn_50 : decode cX7_comeIn 50 = .ok (.iload_n 2, 1) := by decide +kernel
theorem dX7_comeIn_51 : decode cX7_comeIn 51 = .ok (.invokevirtual 142, 3) := by decide +kernel
theorem dX7_comeIn_54 : decode cX7_comeIn 54 = .ok (.goto 35, 3) := by decide +kernel
theorem dX7_comeIn_57 : decode cX7_comeIn 57 = .ok (.aload_n 0, 1) := by decide +kernel
theorem dX7_comeIn_58 : decode cX7_comeIn 58 = .ok (.getfield 24, 3) := by decide +kernel
theorem dX7_comeIn_61 : decode cX7_comeIn 61 = .ok (.iload_n 1, 1) := by decide +kernel
theorem dX7_comeIn_62 : decode cX7_comeIn 62 = .ok (.iaload, 1) := by decide +kernel
theorem dX7_comeIn_63 : decode cX7_comeIn 63 = .ok (.ifCond .lt 26, 3) := by decide +kernel
theorem dX7_comeIn_66 : decode cX7_comeIn 66 = .ok (.iload 4, 2) := by decide +kernel
theorem dX7_comeIn_68 : decode cX7_comeIn 68 = .ok (.ifCond .lt 21, 3) := by decide +kernel
theorem dX7_comeIn_71 : decode cX7_comeIn 71 = .ok (.aload_n 0, 1) := by decide +kernel
theorem dX7_comeIn_72 : decode cX7_comeIn 72 = .ok (.iconst 2, 1) := by decide +kernel
theorem dX7_comeIn_73 : decode cX7_comeIn 73 = .ok (.iload 4, 2) := by decide +kernel
theorem dX7_comeIn_75 : decode cX7_comeIn 75 = .ok (.aload_n 0, 1) := by decide +kernel
theorem dX7_comeIn_76 : decode cX7_comeIn 76 = .ok (.getfield 24, 3) := by decide +kernel
theorem dX7_comeIn_79 : decode cX7_comeIn 79 = .ok (.iload_n 1, 1) := by decide +kernel
theorem dX7_comeIn_80 : decode cX7_comeIn 80 = .ok (.iaload, 1) := by decide +kernel
theorem dX7_comeIn_81 : decode cX7_comeIn 81 = .ok (.iadd, 1) := by decide +kernel
theorem dX7_comeIn_82 : decode cX7_comeIn 82 = .ok (.imul, 1) := by decide +kernel
theorem dX7_comeIn_83 : decode cX7_comeIn 83 = .ok (.iconst 1, 1) := by decide +kernel
theorem dX7_comeIn_84 : decode cX7_comeIn 84 = .ok (.iadd, 1) := by decide +kernel
theorem dX7_comeIn_85 : decode cX7_comeIn 85 = .ok (.iload_n 2, 1) := by decide +kernel
theorem dX7_comeIn_86 : decode cX7_comeIn 86 = .ok (.invokevirtual 142, 3) := by decide +kernel
theorem dX7_comeIn_89 : decode cX7_comeIn 89 = .ok (.return_, 1) := by decide +kernel
theorem dX7_fewestThinkable_0 : decode cX7_fewestThinkable 0 = .ok (.aload_n 0, 1) := by decide +kernel
theorem dX7_fewestThinkable_1 : decode cX7_fewestThinkable 1 = .ok (.getfield 78, 3) := by decide +kernel
theorem dX7_fewestThinkable_4 : decode cX7_fewestThinkable 4 = .ok (.ifCond .gt 6, 3) := by decide +kernel
theorem dX7_fewestThinkable_7 : decode cX7_fewestThinkable 7 = .ok (.bipush 21, 2) := by decide +kernel
theorem dX7_fewestThinkable_9 : decode cX7_fewestThinkable 9 = .ok (.ireturn, 1) := by decide +kernel
theorem dX7_fewestThinkable_10 : decode cX7_fewestThinkable 10 = .ok (.iconst 1, 1) := by decide +kernel
theorem dX7_fewestThinkable_11 : decode cX7_fewestThinkable 11 = .ok (.aload_n 0, 1) := by decide +kernel
theorem dX7_fewestThinkable_12 : decode cX7_fewestThinkable 12 = .ok (.getfield 81, 3) := by decide +kernel
theorem dX7_fewestThinkable_15 : decode cX7_fewestThinkable 15 = .ok (.invokestatic 68, 3) := by decide +kernel
theorem dX7_fewestThinkable_18 : decode cX7_fewestThinkable 18 = .ok (.aload_n 0, 1) := by decide +kernel
theorem dX7_fewestThinkable_19 : decode cX7_fewestThinkable 19 = .ok (.getfield 78, 3) := by decide +kernel
theorem dX7_fewestThinkable_22 : decode cX7_fewestThinkable 22 = .ok (.iadd, 1) := by decide +kernel
theorem dX7_fewestThinkable_23 : decode cX7_fewestThinkable 23 = .ok (.iconst 1, 1) := by decide +kernel
theorem dX7_fewestThinkable_24 : decode cX7_fewestThinkable 24 = .ok (.isub, 1) := by decide +kernel
theorem dX7_fewestThinkable_25 : decode cX7_fewestThinkable 25 = .ok (.aload_n 0, 1) := by decide +kernel
theorem dX7_fewestThinkable_26 : decode cX7_fewestThinkable 26 = .ok (.getfield 78, 3) := by decide +kernel
theorem dX7_fewestThinkable_29 : decode cX7_fewestThinkable 29 = .ok (.idiv, 1) := by decide +kernel
theorem dX7_fewestThinkable_30 : decode cX7_fewestThinkable 30 = .ok (.iadd, 1) := by decide +kernel
theorem dX7_fewestThinkable_31 : decode cX7_fewestThinkable 31 = .ok (.istore_n 1, 1) := by decide +kernel
theorem dX7_fewestThinkable_32 : decode cX7_fewestThinkable 32 = .ok (.iconst 0, 1) := by decide +kernel
theorem dX7_fewestThinkable_33 : decode cX7_fewestThinkable 33 = .ok (.istore_n 2, 1) := by decide +kernel
theorem dX7_fewestThinkable_34 : decode cX7_fewestThinkable 34 = .ok (.iload_n 2, 1) := by decide +kernel
theorem dX7_fewestThinkable_35 : decode cX7_fewestThinkable 35 = .ok (.bipush 36, 2) := by decide +kernel
theorem dX7_fewestThinkable_37 : decode cX7_fewestThinkable 37 = .ok (.if_icmp .ge 36, 3) := by decide +kernel
theorem dX7_fewestThinkable_40 : decode cX7_fewestThinkable 40 = .ok (.aload_n 0, 1) := by decide +kernel
theorem dX7_fewestThinkable_41 : decode cX7_fewestThinkable 41 = .ok (.getfield 81, 3) := by decide +kernel
theorem dX7_fewestThinkable_44 : decode cX7_fewestThinkable 44 = .ok (.iload_n 2, 1) := by decide +kernel
theorem dX7_fewestThinkable_45 : decode cX7_fewestThinkable 45 = .ok (.invokestatic 84, 3) := by decide +kernel
theorem dX7_fewestThinkable_48 : decode cX7_fewestThinkable 48 = .ok (.land, 1) := by decide +kernel
theorem dX7_fewestThinkable_49 : decode cX7_fewestThinkable 49 = .ok (.lconst 0, 1) := by decide +kernel
theorem dX7_fewestThinkable_50 : decode cX7_fewestThinkable 50 = .ok (.lcmp, 1) := by decide +kernel
theorem dX7_fewestThinkable_51 : decode cX7_fewestThinkable 51 = .ok (.ifCond .eq 16, 3) := by decide +kernel
theorem dX7_fewestThinkable_54 : decode cX7_fewestThinkable 54 = .ok (.iload_n 1, 1) := by decide +kernel
theorem dX7_fewestThinkable_55 : decode cX7_fewestThinkable 55 = .ok (.aload_n 0, 1) := by decide +kernel
theorem dX7_fewestThinkable_56 : decode cX7_fewestThinkable 56 = .ok (.getfield 15, 3) := by decide +kernel
theorem dX7_fewestThinkable_59 : decode cX7_fewestThinkable 59 = .ok (.iload_n 2, 1) := by decide +kernel
theorem dX7_fewestThinkable_60 : decode cX7_fewestThinkable 60 = .ok (.iaload, 1) := by decide +kernel
theorem dX7_fewestThinkable_61 : decode cX7_fewestThinkable 61 = .ok (.iconst 1, 1) := by decide +kernel
theorem dX7_fewestThinkable_62 : decode cX7_fewestThinkable 62 = .ok (.iadd, 1) := by decide +kernel
theorem dX7_fewestThinkable_63 : decode cX7_fewestThinkable 63 = .ok (.invokestatic 88, 3) := by decide +kernel
theorem dX7_fewestThinkable_66 : decode cX7_fewestThinkable 66 = .ok (.istore_n 1, 1) := by decide +kernel
theorem dX7_fewestThinkable_67 : decode cX7_fewestThinkable 67 = .ok (.iinc 2 1, 3) := by decide +kernel
theorem dX7_fewestThinkable_70 : decode cX7_fewestThinkable 70 = .ok (.goto (-36), 3) := by decide +kernel
theorem dX7_fewestThinkable_73 : decode cX7_fewestThinkable 73 = .ok (.iload_n 1, 1) := by decide +kernel
theorem dX7_fewestThinkable_74 : decode cX7_fewestThinkable 74 = .ok (.ireturn, 1) := by decide +kernel
theorem dX7_gather_0 : decode cX7_gather 0 = .ok (.aload_n 0, 1) := by decide +kernel
theorem dX7_gather_1 : decode cX7_gather 1 = .ok (.getfield 40, 3) := by decide +kernel
theorem dX7_gather_4 : decode cX7_gather 4 = .ok (.getfield 56, 3) := by decide +kernel
theorem dX7_gather_7 : decode cX7_gather 7 = .ok (.astore_n 3, 1) := by decide +kernel
theorem dX7_gather_8 : decode cX7_gather 8 = .ok (.iconst 0, 1) := by decide +kernel
theorem dX7_gather_9 : decode cX7_gather 9 = .ok (.istore 4, 2) := by decide +kernel
theorem dX7_gather_11 : decode cX7_gather 11 = .ok (.iload 4, 2) := by decide +kernel
theorem dX7_gather_13 : decode cX7_gather 13 = .ok (.bipush 36, 2) := by decide +kernel
theorem dX7_gather_15 : decode cX7_gather 15 = .ok (.if_icmp .ge 42, 3) := by decide +kernel
theorem dX7_gather_18 : decode cX7_gather 18 = .ok (.aload_n 0, 1) := by decide +kernel
theorem dX7_gather_19 : decode cX7_gather 19 = .ok (.getfield 9, 3) := by decide +kernel
theorem dX7_gather_22 : decode cX7_gather 22 = .ok (.iload 4, 2) := by decide +kernel
theorem dX7_gather_24 : decode cX7_gather 24 = .ok (.iconst 0, 1) := by decide +kernel
theorem dX7_gather_25 : decode cX7_gather 25 = .ok (.iastore, 1) := by decide +kernel
theorem dX7_gather_26 : decode cX7_gather 26 = .ok (.aload_n 0, 1) := by decide +kernel
theorem dX7_gather_27 : decode cX7_gather 27 = .ok (.getfield 15, 3) := by decide +kernel
theorem dX7_gather_30 : decode cX7_gather 30 = .ok (.iload 4, 2) := by decide +kernel
theorem dX7_gather_32 : decode cX7_gather 32 = .ok (.aload_n 0, 1) := by decide +kernel
theorem dX7_gather_33 : decode cX7_gather 33 = .ok (.getfield 40, 3) := by decide +kernel
theorem dX7_gather_36 : decode cX7_gather 36 = .ok (.iload 4, 2) := by decide +kernel
theorem dX7_gather_38 : decode cX7_gather 38 = .ok (.iload_n 1, 1) := by decide +kernel
theorem dX7_gather_39 : decode cX7_gather 39 = .ok (.invokevirtual 94, 3) := by decide +kernel
theorem dX7_gather_42 : decode cX7_gather 42 = .ok (.iconst 1, 1) := by decide +kernel
theorem dX7_gather_43 : decode cX7_gather 43 = .ok (.isub, 1) := by decide +kernel
theorem dX7_gather_44 : decode cX7_gather 44 = .ok (.iastore, 1) := by decide +kernel
theorem dX7_gather_45 : decode cX7_gather 45 = .ok (.aload_n 0, 1) := by decide +kernel
theorem dX7_gather_46 : decode cX7_gather 46 = .ok (.iload 4, 2) := by decide +kernel
theorem dX7_gather_48 : decode cX7_gather 48 = .ok (.invokevirtual 97, 3) := by decide +kernel
theorem dX7_gather_51 : decode cX7_gather 51 = .ok (.iinc 4 1, 3) := by decide +kernel
theorem dX7_gather_54 : decode cX7_gather 54 = .ok (.goto (-43), 3) := by decide +kernel
theorem dX7_gather_57 : decode cX7_gather 57 = .ok (.aload_n 0, 1) := by decide +kernel
theorem dX7_gather_58 : decode cX7_gather 58 = .ok (.iconst 0, 1) := by decide +kernel
theorem dX7_gather_59 : decode cX7_gather 59 = .ok (.putfield 78, 3) := by decide +kernel
theorem dX7_gather_62 : decode cX7_gather 62 = .ok (.aload_n 0, 1) := by decide +kernel
theorem dX7_gather_63 : decode cX7_gather 63 = .ok (.aload_n 3, 1) := by decide +kernel
theorem dX7_gather_64 : decode cX7_gather 64 = .ok (.getfield 62, 3) := by decide +kernel
theorem dX7_gather_67 : decode cX7_gather 67 = .ok (.putfield 81, 3) := by decide +kernel
theorem dX7_gather_70 : decode cX7_gather 70 = .ok (.iconst 0, 1) := by decide +kernel
theorem dX7_gather_71 : decode cX7_gather 71 = .ok (.istore 4, 2) := by decide +kernel
theorem dX7_gather_73 : decode cX7_gather 73 = .ok (.iload 4, 2) := by decide +kernel
theorem dX7_gather_75 : decode cX7_gather 75 = .ok (.aload_n 3, 1) := by decide +kernel
theorem dX7_gather_76 : decode cX7_gather 76 = .ok (.getfield 100, 3) := by decide +kernel
theorem dX7_gather_79 : decode cX7_gather 79 = .ok (.if_icmp .ge 107, 3) := by decide +kernel
theorem dX7_gather_82 : decode cX7_gather 82 = .ok (.iload 4, 2) := by decide +kernel
theorem dX7_gather_84 : decode cX7_gather 84 = .ok (.bipush 7, 2) := by decide +kernel
theorem dX7_gather_86 : decode cX7_gather 86 = .ok (.if_icmp .ge 100, 3) := by decide +kernel
theorem dX7_gather_89 : decode cX7_gather 89 = .ok (.aload_n 0, 1) := by decide +kernel
theorem dX7_gather_90 : decode cX7_gather 90 = .ok (.getfield 40, 3) := by decide +kernel
theorem dX7_gather_93 : decode cX7_gather 93 = .ok (.iload 4, 2) := by decide +kernel
theorem dX7_gather_95 : decode cX7_gather 95 = .ok (.iload_n 1, 1) := by decide +kernel
theorem dX7_gather_96 : decode cX7_gather 96 = .ok (.invokevirtual 103, 3) := by decide +kernel
theorem dX7_gather_99 : decode cX7_gather 99 = .ok (.ifCond .eq 81, 3) := by decide +kernel
theorem dX7_gather_102 : decode cX7_gather 102 = .ok (.aload_n 3, 1) := by decide +kernel
theorem dX7_gather_103 : decode cX7_gather 103 = .ok (.aload_n 0, 1) := by decide +kernel
theorem dX7_gather_104 : decode cX7_gather 104 = .ok (.getfield 40, 3) := by decide +kernel
theorem dX7_gather_107 : decode cX7_gather 107 = .ok (.iload 4, 2) := by decide +kernel
theorem dX7_gather_109 : decode cX7_gather 109 = .ok (.iload_n 1, 1) := by decide +kernel
theorem dX7_gather_110 : decode cX7_gather 110 = .ok (.invokevirtual 107, 3) := by decide +kernel
theorem dX7_gather_113 : decode cX7_gather 113 = .ok (.invokevirtual 110, 3) := by decide +kernel
theorem dX7_gather_116 : decode cX7_gather 116 = .ok (.istore 5, 2) := by decide +kernel
theorem dX7_gather_118 : decode cX7_gather 118 = .ok (.aload_n 3, 1) := by decide +kernel
theorem dX7_gather_119 : decode cX7_gather 119 = .ok (.getfield 114, 3) := by decide +kernel
theorem dX7_gather_122 : decode cX7_gather 122 = .ok (.iload 4, 2) := by decide +kernel
theorem dX7_gather_124 : decode cX7_gather 124 = .ok (.iaload, 1) := by decide +kernel
theorem dX7_gather_125 : decode cX7_gather 125 = .ok (.iload 4, 2) := by decide +kernel
theorem dX7_gather_127 : decode cX7_gather 127 = .ok (.iload_n 2, 1) := by decide +kernel
theorem dX7_gather_128 : decode cX7_gather 128 = .ok (.if_icmp .ne 7, 3) := by decide +kernel
theorem dX7_gather_131 : decode cX7_gather 131 = .ok (.iconst 1, 1) := by decide +kernel
theorem dX7_gather_132 : decode cX7_gather 132 = .ok (.goto 4, 3) := by decide +kernel
theorem dX7_gather_135 : decode cX7_gather 135 = .ok (.iconst 0, 1) := by decide +kernel
theorem dX7_gather_136 : decode cX7_gather 136 = .ok (.iadd, 1) := by decide +kernel
theorem dX7_gather_137 : decode cX7_gather 137 = .ok (.istore 6, 2) := by decide +kernel
theorem dX7_gather_139 : decode cX7_gather 139 = .ok (.aload_n 0, 1) := by decide +kernel
theorem dX7_gather_140 : decode cX7_gather 140 = .ok (.getfield 9, 3) := by decide +kernel
theorem dX7_gather_143 : decode cX7_gather 143 = .ok (.iload 5, 2) := by decide +kernel
theorem dX7_gather_145 : decode cX7_gather 145 = .ok (.dup2, 1) := by decide +kernel
theorem dX7_gather_146 : decode cX7_gather 146 = .ok (.iaload, 1) := by decide +kernel
theorem dX7_gather_147 : decode cX7_gather 147 = .ok (.iload 6, 2) := by decide +kernel
theorem dX7_gather_149 : decode cX7_gather 149 = .ok (.iadd, 1) := by decide +kernel
theorem dX7_gather_150 : decode cX7_gather 150 = .ok (.iastore, 1) := by decide +kernel
theorem dX7_gather_151 : decode cX7_gather 151 = .ok (.aload_n 0, 1) := by decide +kernel
theorem dX7_gather_152 : decode cX7_gather 152 = .ok (.dup, 1) := by decide +kernel
theorem dX7_gather_153 : decode cX7_gather 153 = .ok (.getfield 78, 3) := by decide +kernel
theorem dX7_gather_156 : decode cX7_gather 156 = .ok (.iload 6, 2) := by decide +kernel
theorem dX7_gather_158 : decode cX7_gather 158 = .ok (.iadd, 1) := by decide +kernel
theorem dX7_gather_159 : decode cX7_gather 159 = .ok (.putfield 78, 3) := by decide +kernel
theorem dX7_gather_162 : decode cX7_gather 162 = .ok (.aload_n 0, 1) := by decide +kernel
theorem dX7_gather_163 : decode cX7_gather 163 = .ok (.dup, 1) := by decide +kernel
theorem dX7_gather_164 : decode cX7_gather 164 = .ok (.getfield 81, 3) := by decide +kernel
theorem dX7_gather_167 : decode cX7_gather 167 = .ok (.iload 5, 2) := by decide +kernel
theorem dX7_gather_169 : decode cX7_gather 169 = .ok (.invokestatic 84, 3) := by decide +kernel
theorem dX7_gather_172 : decode cX7_gather 172 = .ok (.ldc2_w 115, 3) := by decide +kernel
theorem dX7_gather_175 : decode cX7_gather 175 = .ok (.lxor, 1) := by decide +kernel
theorem dX7_gather_176 : decode cX7_gather 176 = .ok (.land, 1) := by decide +kernel
theorem dX7_gather_177 : decode cX7_gather 177 = .ok (.putfield 81, 3) := by decide +kernel
theorem dX7_gather_180 : decode cX7_gather 180 = .ok (.iinc 4 1, 3) := by decide +kernel
theorem dX7_gather_183 : decode cX7_gather 183 = .ok (.goto (-110), 3) := by decide +kernel
theorem dX7_gather_186 : decode cX7_gather 186 = .ok (.aload_n 0, 1) := by decide +kernel
theorem dX7_gather_187 : decode cX7_gather 187 = .ok (.aload_n 3, 1) := by decide +kernel
theorem dX7_gather_188 : decode cX7_gather 188 = .ok (.getfield 62, 3) := by decide +kernel
theorem dX7_gather_191 : decode cX7_gather 191 = .ok (.aload_n 0, 1) := by decide +kernel
theorem dX7_gather_192 : decode cX7_gather 192 = .ok (.getfield 81, 3) := by decide +kernel
theorem dX7_gather_195 : decode cX7_gather 195 = .ok (.ldc2_w 115, 3) := by decide +kernel
theorem dX7_gather_198 : decode cX7_gather 198 = .ok (.lxor, 1) := by decide +kernel
theorem dX7_gather_199 : decode cX7_gather 199 = .ok (.land, 1) := by decide +kernel
theorem dX7_gather_200 : decode cX7_gather 200 = .ok (.invokestatic 68, 3) := by decide +kernel
theorem dX7_gather_203 : decode cX7_gather 203 = .ok (.putfield 52, 3) := by decide +kernel
theorem dX7_gather_206 : decode cX7_gather 206 = .ok (.iconst 0, 1) := by decide +kernel
theorem dX7_gather_207 : decode cX7_gather 207 = .ok (.istore 4, 2) := by decide +kernel
theorem dX7_gather_209 : decode cX7_gather 209 = .ok (.iload 4, 2) := by decide +kernel
theorem dX7_gather_211 : decode cX7_gather 211 = .ok (.sipush 720, 3) := by decide +kernel
theorem dX7_gather_214 : decode cX7_gather 214 = .ok (.if_icmp .ge 33, 3) := by decide +kernel
theorem dX7_gather_217 : decode cX7_gather 217 = .ok (.aload_n 0, 1) := by decide +kernel
theorem dX7_gather_218 : decode cX7_gather 218 = .ok (.getfield 21, 3) := by decide +kernel
theorem dX7_gather_221 : decode cX7_gather 221 = .ok (.iload 4, 2) := by decide +kernel
theorem dX7_gather_223 : decode cX7_gather 223 = .ok (.iconst (-1), 1) := by decide +kernel
theorem dX7_gather_224 : decode cX7_gather 224 = .ok (.iastore, 1) := by decide +kernel
theorem dX7_gather_225 : decode cX7_gather 225 = .ok (.aload_n 0, 1) := by decide +kernel
theorem dX7_gather_226 : decode cX7_gather 226 = .ok (.getfield 24, 3) := by decide +kernel
theorem dX7_gather_229 : decode cX7_gather 229 = .ok (.iload 4, 2) := by decide +kernel
theorem dX7_gather_231 : decode cX7_gather 231 = .ok (.iconst (-1), 1) := by decide +kernel
theorem dX7_gather_232 : decode cX7_gather 232 = .ok (.iastore, 1) := by decide +kernel
theorem dX7_gather_233 : decode cX7_gather 233 = .ok (.aload_n 0, 1) := by decide +kernel
theorem dX7_gather_234 : decode cX7_gather 234 = .ok (.getfield 27, 3) := by decide +kernel
theorem dX7_gather_237 : decode cX7_gather 237 = .ok (.iload 4, 2) := by decide +kernel
theorem dX7_gather_239 : decode cX7_gather 239 = .ok (.iconst 0, 1) := by decide +kernel
theorem dX7_gather_240 : decode cX7_gather 240 = .ok (.iastore, 1) := by decide +kernel
theorem dX7_gather_241 : decode cX7_gather 241 = .ok (.iinc 4 1, 3) := by decide +kernel
theorem dX7_gather_244 : decode cX7_gather 244 = .ok (.goto (-35), 3) := by decide +kernel
theorem dX7_gather_247 : decode cX7_gather 247 = .ok (.return_, 1) := by decide +kernel
theorem dX7_goOut_0 : decode cX7_goOut 0 = .ok (.iconst 2, 1) := by decide +kernel
theorem dX7_goOut_1 : decode cX7_goOut 1 = .ok (.iload_n 1, 1) := by decide +kernel
theorem dX7_goOut_2 : decode cX7_goOut 2 = .ok (.imul, 1) := by decide +kernel
theorem dX7_goOut_3 : decode cX7_goOut 3 = .ok (.iconst 1, 1) := by decide +kernel
theorem dX7_goOut_4 : decode cX7_goOut 4 = .ok (.iadd, 1) := by decide +kernel
theorem dX7_goOut_5 : decode cX7_goOut 5 = .ok (.istore_n 2, 1) := by decide +kernel
theorem dX7_goOut_6 : decode cX7_goOut 6 = .ok (.iload_n 1, 1) := by decide +kernel
theorem dX7_goOut_7 : decode cX7_goOut 7 = .ok (.bipush 36, 2) := by decide +kernel
theorem dX7_goOut_9 : decode cX7_goOut 9 = .ok (.irem, 1) := by decide +kernel
theorem dX7_goOut_10 : decode cX7_goOut 10 = .ok (.istore_n 3, 1) := by decide +kernel
theorem dX7_goOut_11 : decode cX7_goOut 11 = .ok (.iload_n 1, 1) := by decide +kernel
theorem dX7_goOut_12 : decode cX7_goOut 12 = .ok (.iload_n 3, 1) := by decide +kernel
theorem dX7_goOut_13 : decode cX7_goOut 13 = .ok (.isub, 1) := by decide +kernel
theorem dX7_goOut_14 : decode cX7_goOut 14 = .ok (.bipush 36, 2) := by decide +kernel
theorem dX7_goOut_16 : decode cX7_goOut 16 = .ok (.iadd, 1) := by decide +kernel
theorem dX7_goOut_17 : decode cX7_goOut 17 = .ok (.istore 4, 2) := by decide +kernel
theorem dX7_goOut_19 : decode cX7_goOut 19 = .ok (.iload 4, 2) := by decide +kernel
theorem dX7_goOut_21 : decode cX7_goOut 21 = .ok (.bipush 36, 2) := by decide +kernel
theorem dX7_goOut_23 : decode cX7_goOut 23 = .ok (.idiv, 1) := by decide +kernel
theorem dX7_goOut_24 : decode cX7_goOut 24 = .ok (.istore 5, 2) := by decide +kernel
theorem dX7_goOut_26 : decode cX7_goOut 26 = .ok (.aload_n 0, 1) := by decide +kernel
theorem dX7_goOut_27 : decode cX7_goOut 27 = .ok (.getfield 21, 3) := by decide +kernel
theorem dX7_goOut_30 : decode cX7_goOut 30 = .ok (.iload_n 1, 1) := by decide +kernel
theorem dX7_goOut_31 : decode cX7_goOut 31 = .ok (.iaload, 1) := by decide +kernel
theorem dX7_goOut_32 : decode cX7_goOut 32 = .ok (.iconst (-1), 1) := by decide +kernel
theorem dX7_goOut_33 : decode cX7_goOut 33 = .ok (.if_icmp .eq 20, 3) := by decide +kernel
theorem dX7_goOut_36 : decode cX7_goOut 36 = .ok (.aload_n 0, 1) := by decide +kernel
theorem dX7_goOut_37 : decode cX7_goOut 37 = .ok (.getfield 24, 3) := by decide +kernel
theorem dX7_goOut_40 : decode cX7_goOut 40 = .ok (.iload_n 1, 1) := by decide +kernel
theorem dX7_goOut_41 : decode cX7_goOut 41 = .ok (.iaload, 1) := by decide +kernel
theorem dX7_goOut_42 : decode cX7_goOut 42 = .ok (.ifCond .lt 11, 3) := by decide +kernel
theorem dX7_goOut_45 : decode cX7_goOut 45 = .ok (.aload_n 0, 1) := by decide +kernel
theorem dX7_goOut_46 : decode cX7_goOut 46 = .ok (.iconst 2, 1) := by decide +kernel
theorem dX7_goOut_47 : decode cX7_goOut 47 = .ok (.iload_n 1, 1) := by decide +kernel
theorem dX7_goOut_48 : decode cX7_goOut 48 = .ok (.imul, 1) := by decide +kernel
theorem dX7_goOut_49 : decode cX7_goOut 49 = .ok (.iload_n 2, 1) := by decide +kernel
theorem dX7_goOut_50 : decode cX7_goOut 50 = .ok (.invokevirtual 142, 3) := by decide +kernel
theorem dX7_goOut_53 : decode cX7_goOut 53 = .ok (.iconst 0, 1) := by decide +kernel
theorem dX7_goOut_54 : decode cX7_goOut 54 = .ok (.istore 6, 2) := by decide +kernel
theorem dX7_goOut_56 : decode cX7_goOut 56 = .ok (.iload 6, 2) := by decide +kernel
theorem dX7_goOut_58 : decode cX7_goOut 58 = .ok (.iconst 5, 1) := by decide +kernel
theorem dX7_goOut_59 : decode cX7_goOut 59 = .ok (.if_icmp .ge 97, 3) := by decide +kernel
theorem dX7_goOut_62 : decode cX7_goOut 62 = .ok (.iload 5, 2) := by decide +kernel
theorem dX7_goOut_64 : decode cX7_goOut 64 = .ok (.aload_n 0, 1) := by decide +kernel
theorem dX7_goOut_65 : decode cX7_goOut 65 = .ok (.getfield 129, 3) := by decide +kernel
theorem dX7_goOut_68 : decode cX7_goOut 68 = .ok (.if_icmp .ge 88, 3) := by decide +kernel
theorem dX7_goOut_71 : decode cX7_goOut 71 = .ok (.aload_n 0, 1) := by decide +kernel
theorem dX7_goOut_72 : decode cX7_goOut 72 = .ok (.getfield 18, 3) := by decide +kernel
theorem dX7_goOut_75 : decode cX7_goOut 75 = .ok (.iconst 5, 1) := by decide +kernel
theorem dX7_goOut_76 : decode cX7_goOut 76 = .ok (.iload_n 3, 1) := by decide +kernel
theorem dX7_goOut_77 : decode cX7_goOut 77 = .ok (.imul, 1) := by decide +kernel
theorem dX7_goOut_78 : decode cX7_goOut 78 = .ok (.iload 6, 2) := by decide +kernel
theorem dX7_goOut_80 : decode cX7_goOut 80 = .ok (.iadd, 1) := by decide +kernel
theorem dX7_goOut_81 : decode cX7_goOut 81 = .ok (.iaload, 1) := by decide +kernel
theorem dX7_goOut_82 : decode cX7_goOut 82 = .ok (.istore 7, 2) := by decide +kernel
theorem dX7_goOut_84 : decode cX7_goOut 84 = .ok (.iload 7, 2) := by decide +kernel
theorem dX7_goOut_86 : decode cX7_goOut 86 = .ok (.iconst (-1), 1) := by decide +kernel
theorem dX7_goOut_87 : decode cX7_goOut 87 = .ok (.if_icmp .eq 63, 3) := by decide +kernel
theorem dX7_goOut_90 : decode cX7_goOut 90 = .ok (.aload_n 0, 1) := by decide +kernel
theorem dX7_goOut_91 : decode cX7_goOut 91 = .ok (.iload 5, 2) := by decide +kernel
theorem dX7_goOut_93 : decode cX7_goOut 93 = .ok (.iload 7, 2) := by decide +kernel
theorem dX7_goOut_95 : decode cX7_goOut 95 = .ok (.invokevirtual 139, 3) := by decide +kernel
theorem dX7_goOut_98 : decode cX7_goOut 98 = .ok (.ifCond .eq 52, 3) := by decide +kernel
theorem dX7_goOut_101 : decode cX7_goOut 101 = .ok (.aload_n 0, 1) := by decide +kernel
theorem dX7_goOut_102 : decode cX7_goOut 102 = .ok (.getfield 21, 3) := by decide +kernel
theorem dX7_goOut_105 : decode cX7_goOut 105 = .ok (.iload_n 1, 1) := by decide +kernel
theorem dX7_goOut_106 : decode cX7_goOut 106 = .ok (.iaload, 1) := by decide +kernel
theorem dX7_goOut_107 : decode cX7_goOut 107 = .ok (.iload 7, 2) := by decide +kernel
theorem dX7_goOut_109 : decode cX7_goOut 109 = .ok (.if_icmp .eq 41, 3) := by decide +kernel
theorem dX7_goOut_112 : decode cX7_goOut 112 = .ok (.aload_n 0, 1) := by decide +kernel
theorem dX7_goOut_113 : decode cX7_goOut 113 = .ok (.getfield 27, 3) := by decide +kernel
theorem dX7_goOut_116 : decode cX7_goOut 116 = .ok (.iload 4, 2) := by decide +kernel
theorem dX7_goOut_118 : decode cX7_goOut 118 = .ok (.iload 7, 2) := by decide +kernel
theorem dX7_goOut_120 : decode cX7_goOut 120 = .ok (.iadd, 1) := by decide +kernel
theorem dX7_goOut_121 : decode cX7_goOut 121 = .ok (.iaload, 1) := by decide +kernel
theorem dX7_goOut_122 : decode cX7_goOut 122 = .ok (.aload_n 0, 1) := by decide +kernel
theorem dX7_goOut_123 : decode cX7_goOut 123 = .ok (.getfield 9, 3) := by decide +kernel
theorem dX7_goOut_126 : decode cX7_goOut 126 = .ok (.iload 7, 2) := by decide +kernel
theorem dX7_goOut_128 : decode cX7_goOut 128 = .ok (.iaload, 1) := by decide +kernel
theorem dX7_goOut_129 : decode cX7_goOut 129 = .ok (.if_icmp .ge 9, 3) := by decide +kernel
theorem dX7_goOut_132 : decode cX7_goOut 132 = .ok (.iload 4, 2) := by decide +kernel
theorem dX7_goOut_134 : decode cX7_goOut 134 = .ok (.iload 7, 2) := by decide +kernel
theorem dX7_goOut_136 : decode cX7_goOut 136 = .ok (.iadd, 1) := by decide +kernel
theorem dX7_goOut_137 : decode cX7_goOut 137 = .ok (.ireturn, 1) := by decide +kernel
theorem dX7_goOut_138 : decode cX7_goOut 138 = .ok (.aload_n 0, 1) := by decide +kernel
theorem dX7_goOut_139 : decode cX7_goOut 139 = .ok (.iconst 2, 1) := by decide +kernel
theorem dX7_goOut_140 : decode cX7_goOut 140 = .ok (.iload 4, 2) := by decide +kernel
theorem dX7_goOut_142 : decode cX7_goOut 142 = .ok (.iload 7, 2) := by decide +kernel
theorem dX7_goOut_144 : decode cX7_goOut 144 = .ok (.iadd, 1) := by decide +kernel
theorem dX7_goOut_145 : decode cX7_goOut 145 = .ok (.imul, 1) := by decide +kernel
theorem dX7_goOut_146 : decode cX7_goOut 146 = .ok (.iload_n 2, 1) := by decide +kernel
theorem dX7_goOut_147 : decode cX7_goOut 147 = .ok (.invokevirtual 142, 3) := by decide +kernel
theorem dX7_goOut_150 : decode cX7_goOut 150 = .ok (.iinc 6 1, 3) := by decide +kernel
theorem dX7_goOut_153 : decode cX7_goOut 153 = .ok (.goto (-97), 3) := by decide +kernel
theorem dX7_goOut_156 : decode cX7_goOut 156 = .ok (.iconst (-1), 1) := by decide +kernel
theorem dX7_goOut_157 : decode cX7_goOut 157 = .ok (.ireturn, 1) := by decide +kernel
theorem dX7_init_0 : decode cX7_init 0 = .ok (.aload_n 0, 1) := by decide +kernel
theorem dX7_init_1 : decode cX7_init 1 = .ok (.invokespecial 3, 3) := by decide +kernel
theorem dX7_init_4 : decode cX7_init 4 = .ok (.aload_n 0, 1) := by decide +kernel
theorem dX7_init_5 : decode cX7_init 5 = .ok (.bipush 36, 2) := by decide +kernel
theorem dX7_init_7 : decode cX7_init 7 = .ok (.newarray .int, 2) := by decide +kernel
theorem dX7_init_9 : decode cX7_init 9 = .ok (.putfield 9, 3) := by decide +kernel
theorem dX7_init_12 : decode cX7_init 12 = .ok (.aload_n 0, 1) := by decide +kernel
theorem dX7_init_13 : decode cX7_init 13 = .ok (.bipush 36, 2) := by decide +kernel
theorem dX7_init_15 : decode cX7_init 15 = .ok (.newarray .int, 2) := by decide +kernel
theorem dX7_init_17 : decode cX7_init 17 = .ok (.putfield 15, 3) := by decide +kernel
theorem dX7_init_20 : decode cX7_init 20 = .ok (.aload_n 0, 1) := by decide +kernel
theorem dX7_init_21 : decode cX7_init 21 = .ok (.sipush 180, 3) := by decide +kernel
theorem dX7_init_24 : decode cX7_init 24 = .ok (.newarray .int, 2) := by decide +kernel
theorem dX7_init_26 : decode cX7_init 26 = .ok (.putfield 18, 3) := by decide +kernel
theorem dX7_init_29 : decode cX7_init 29 = .ok (.aload_n 0, 1) := by decide +kernel
theorem dX7_init_30 : decode cX7_init 30 = .ok (.sipush 720, 3) := by decide +kernel
theorem dX7_init_33 : decode cX7_init 33 = .ok (.newarray .int, 2) := by decide +kernel
theorem dX7_init_35 : decode cX7_init 35 = .ok (.putfield 21, 3) := by decide +kernel
theorem dX7_init_38 : decode cX7_init 38 = .ok (.aload_n 0, 1) := by decide +kernel
theorem dX7_init_39 : decode cX7_init 39 = .ok (.sipush 720, 3) := by decide +kernel
theorem dX7_init_42 : decode cX7_init 42 = .ok (.newarray .int, 2) := by decide +kernel
theorem dX7_init_44 : decode cX7_init 44 = .ok (.putfield 24, 3) := by decide +kernel
theorem dX7_init_47 : decode cX7_init 47 = .ok (.aload_n 0, 1) := by decide +kernel
theorem dX7_init_48 : decode cX7_init 48 = .ok (.sipush 720, 3) := by decide +kernel
theorem dX7_init_51 : decode cX7_init 51 = .ok (.newarray .int, 2) := by decide +kernel
theorem dX7_init_53 : decode cX7_init 53 = .ok (.putfield 27, 3) := by decide +kernel
theorem dX7_init_56 : decode cX7_init 56 = .ok (.aload_n 0, 1) := by decide +kernel
theorem dX7_init_57 : decode cX7_init 57 = .ok (.sipush 1440, 3) := by decide +kernel
theorem dX7_init_60 : decode cX7_init 60 = .ok (.newarray .int, 2) := by decide +kernel
theorem dX7_init_62 : decode cX7_init 62 = .ok (.putfield 30, 3) := by decide +kernel
theorem dX7_init_65 : decode cX7_init 65 = .ok (.aload_n 0, 1) := by decide +kernel
theorem dX7_init_66 : decode cX7_init 66 = .ok (.sipush 1440, 3) := by decide +kernel
theorem dX7_init_69 : decode cX7_init 69 = .ok (.newarray .int, 2) := by decide +kernel
theorem dX7_init_71 : decode cX7_init 71 = .ok (.putfield 33, 3) := by decide +kernel
theorem dX7_init_74 : decode cX7_init 74 = .ok (.aload_n 0, 1) := by decide +kernel
theorem dX7_init_75 : decode cX7_init 75 = .ok (.bipush 40, 2) := by decide +kernel
theorem dX7_init_77 : decode cX7_init 77 = .ok (.newarray .long, 2) := by decide +kernel
theorem dX7_init_79 : decode cX7_init 79 = .ok (.putfield 36, 3) := by decide +kernel
theorem dX7_init_82 : decode cX7_init 82 = .ok (.aload_n 0, 1) := by decide +kernel
theorem dX7_init_83 : decode cX7_init 83 = .ok (.aload_n 1, 1) := by decide +kernel
theorem dX7_init_84 : decode cX7_init 84 = .ok (.putfield 40, 3) := by decide +kernel
theorem dX7_init_87 : decode cX7_init 87 = .ok (.return_, 1) := by decide +kernel
theorem dX7_lookRound_0 : decode cX7_lookRound 0 = .ok (.iload_n 1, 1) := by decide +kernel
theorem dX7_lookRound_1 : decode cX7_lookRound 1 = .ok (.bipush 6, 2) := by decide +kernel
theorem dX7_lookRound_3 : decode cX7_lookRound 3 = .ok (.idiv, 1) := by decide +kernel
theorem dX7_lookRound_4 : decode cX7_lookRound 4 = .ok (.istore_n 2, 1) := by decide +kernel
theorem dX7_lookRound_5 : decode cX7_lookRound 5 = .ok (.iload_n 1, 1) := by decide +kernel
theorem dX7_lookRound_6 : decode cX7_lookRound 6 = .ok (.bipush 6, 2) := by decide +kernel
theorem dX7_lookRound_8 : decode cX7_lookRound 8 = .ok (.irem, 1) := by decide +kernel
theorem dX7_lookRound_9 : decode cX7_lookRound 9 = .ok (.istore_n 3, 1) := by decide +kernel
theorem dX7_lookRound_10 : decode cX7_lookRound 10 = .ok (.iconst 5, 1) := by decide +kernel
theorem dX7_lookRound_11 : decode cX7_lookRound 11 = .ok (.iload_n 1, 1) := by decide +kernel
theorem dX7_lookRound_12 : decode cX7_lookRound 12 = .ok (.imul, 1) := by decide +kernel
theorem dX7_lookRound_13 : decode cX7_lookRound 13 = .ok (.istore 4, 2) := by decide +kernel
theorem dX7_lookRound_15 : decode cX7_lookRound 15 = .ok (.aload_n 0, 1) := by decide +kernel
theorem dX7_lookRound_16 : decode cX7_lookRound 16 = .ok (.getfield 18, 3) := by decide +kernel
theorem dX7_lookRound_19 : decode cX7_lookRound 19 = .ok (.iload 4, 2) := by decide +kernel
theorem dX7_lookRound_21 : decode cX7_lookRound 21 = .ok (.aload_n 0, 1) := by decide +kernel
theorem dX7_lookRound_22 : decode cX7_lookRound 22 = .ok (.iload_n 2, 1) := by decide +kernel
theorem dX7_lookRound_23 : decode cX7_lookRound 23 = .ok (.iload_n 3, 1) := by decide +kernel
theorem dX7_lookRound_24 : decode cX7_lookRound 24 = .ok (.invokevirtual 117, 3) := by decide +kernel
theorem dX7_lookRound_27 : decode cX7_lookRound 27 = .ok (.iastore, 1) := by decide +kernel
theorem dX7_lookRound_28 : decode cX7_lookRound 28 = .ok (.aload_n 0, 1) := by decide +kernel
theorem dX7_lookRound_29 : decode cX7_lookRound 29 = .ok (.getfield 18, 3) := by decide +kernel
theorem dX7_lookRound_32 : decode cX7_lookRound 32 = .ok (.iload 4, 2) := by decide +kernel
theorem dX7_lookRound_34 : decode cX7_lookRound 34 = .ok (.iconst 1, 1) := by decide +kernel
theorem dX7_lookRound_35 : decode cX7_lookRound 35 = .ok (.iadd, 1) := by decide +kernel
theorem dX7_lookRound_36 : decode cX7_lookRound 36 = .ok (.aload_n 0, 1) := by decide +kernel
theorem dX7_lookRound_37 : decode cX7_lookRound 37 = .ok (.iload_n 2, 1) := by decide +kernel
theorem dX7_lookRound_38 : decode cX7_lookRound 38 = .ok (.iconst 1, 1) := by decide +kernel
theorem dX7_lookRound_39 : decode cX7_lookRound 39 = .ok (.isub, 1) := by decide +kernel
theorem dX7_lookRound_40 : decode cX7_lookRound 40 = .ok (.iload_n 3, 1) := by decide +kernel
theorem dX7_lookRound_41 : decode cX7_lookRound 41 = .ok (.invokevirtual 117, 3) := by decide +kernel
theorem dX7_lookRound_44 : decode cX7_lookRound 44 = .ok (.iastore, 1) := by decide +kernel
theorem dX7_lookRound_45 : decode cX7_lookRound 45 = .ok (.aload_n 0, 1) := by decide +kernel
theorem dX7_lookRound_46 : decode cX7_lookRound 46 = .ok (.getfield 18, 3) := by decide +kernel
theorem dX7_lookRound_49 : decode cX7_lookRound 49 = .ok (.iload 4, 2) := by decide +kernel
theorem dX7_lookRound_51 : decode cX7_lookRound 51 = .ok (.iconst 2, 1) := by decide +kernel
theorem dX7_lookRound_52 : decode cX7_lookRound 52 = .ok (.iadd, 1) := by decide +kernel
theorem dX7_lookRound_53 : decode cX7_lookRound 53 = .ok (.aload_n 0, 1) := by decide +kernel
theorem dX7_lookRound_54 : decode cX7_lookRound 54 = .ok (.iload_n 2, 1) := by decide +kernel
theorem dX7_lookRound_55 : decode cX7_lookRound 55 = .ok (.iconst 1, 1) := by decide +kernel
theorem dX7_lookRound_56 : decode cX7_lookRound 56 = .ok (.iadd, 1) := by decide +kernel
theorem dX7_lookRound_57 : decode cX7_lookRound 57 = .ok (.iload_n 3, 1) := by decide +kernel
theorem dX7_lookRound_58 : decode cX7_lookRound 58 = .ok (.invokevirtual 117, 3) := by decide +kernel
theorem dX7_lookRound_61 : decode cX7_lookRound 61 = .ok (.iastore, 1) := by decide +kernel
theorem dX7_lookRound_62 : decode cX7_lookRound 62 = .ok (.aload_n 0, 1) := by decide +kernel
theorem dX7_lookRound_63 : decode cX7_lookRound 63 = .ok (.getfield 18, 3) := by decide +kernel
theorem dX7_lookRound_66 : decode cX7_lookRound 66 = .ok (.iload 4, 2) := by decide +kernel
theorem dX7_lookRound_68 : decode cX7_lookRound 68 = .ok (.iconst 3, 1) := by decide +kernel
theorem dX7_lookRound_69 : decode cX7_lookRound 69 = .ok (.iadd, 1) := by decide +kernel
theorem dX7_lookRound_70 : decode cX7_lookRound 70 = .ok (.aload_n 0, 1) := by decide +kernel
theorem dX7_lookRound_71 : decode cX7_lookRound 71 = .ok (.iload_n 2, 1) := by decide +kernel
theorem dX7_lookRound_72 : decode cX7_lookRound 72 = .ok (.iload_n 3, 1) := by decide +kernel
theorem dX7_lookRound_73 : decode cX7_lookRound 73 = .ok (.iconst 1, 1) := by decide +kernel
theorem dX7_lookRound_74 : decode cX7_lookRound 74 = .ok (.isub, 1) := by decide +kernel
theorem dX7_lookRound_75 : decode cX7_lookRound 75 = .ok (.invokevirtual 117, 3) := by decide +kernel
theorem dX7_lookRound_78 : decode cX7_lookRound 78 = .ok (.iastore, 1) := by decide +kernel
theorem dX7_lookRound_79 : decode cX7_lookRound 79 = .ok (.aload_n 0, 1) := by decide +kernel
theorem dX7_lookRound_80 : decode cX7_lookRound 80 = .ok (.getfield 18, 3) := by decide +kernel
theorem dX7_lookRound_83 : decode cX7_lookRound 83 = .ok (.iload 4, 2) := by decide +kernel
theorem dX7_lookRound_85 : decode cX7_lookRound 85 = .ok (.iconst 4, 1) := by decide +kernel
theorem dX7_lookRound_86 : decode cX7_lookRound 86 = .ok (.iadd, 1) := by decide +kernel
theorem dX7_lookRound_87 : decode cX7_lookRound 87 = .ok (.aload_n 0, 1) := by decide +kernel
theorem dX7_lookRound_88 : decode cX7_lookRound 88 = .ok (.iload_n 2, 1) := by decide +kernel
theorem dX7_lookRound_89 : decode cX7_lookRound 89 = .ok (.iload_n 3, 1) := by decide +kernel
theorem dX7_lookRound_90 : decode cX7_lookRound 90 = .ok (.iconst 1, 1) := by decide +kernel
theorem dX7_lookRound_91 : decode cX7_lookRound 91 = .ok (.iadd, 1) := by decide +kernel
theorem dX7_lookRound_92 : decode cX7_lookRound 92 = .ok (.invokevirtual 117, 3) := by decide +kernel
theorem dX7_lookRound_95 : decode cX7_lookRound 95 = .ok (.iastore, 1) := by decide +kernel
theorem dX7_lookRound_96 : decode cX7_lookRound 96 = .ok (.return_, 1) := by decide +kernel
theorem dX7_minutesOfAll_0 : decode cX7_minutesOfAll 0 = .ok (.aload_n 0, 1) := by decide +kernel
theorem dX7_minutesOfAll_1 : decode cX7_minutesOfAll 1 = .ok (.iload_n 1, 1) := by decide +kernel
theorem dX7_minutesOfAll_2 : decode cX7_minutesOfAll 2 = .ok (.iconst (-1), 1) := by decide +kernel
theorem dX7_minutesOfAll_3 : decode cX7_minutesOfAll 3 = .ok (.invokevirtual 44, 3) := by decide +kernel
theorem dX7_minutesOfAll_6 : decode cX7_minutesOfAll 6 = .ok (.aload_n 0, 1) := by decide +kernel
theorem dX7_minutesOfAll_7 : decode cX7_minutesOfAll 7 = .ok (.getfield 40, 3) := by decide +kernel
theorem dX7_minutesOfAll_10 : decode cX7_minutesOfAll 10 = .ok (.getfield 56, 3) := by decide +kernel
theorem dX7_minutesOfAll_13 : decode cX7_minutesOfAll 13 = .ok (.getfield 62, 3) := by decide +kernel
theorem dX7_minutesOfAll_16 : decode cX7_minutesOfAll 16 = .ok (.invokestatic 68, 3) := by decide +kernel
theorem dX7_minutesOfAll_19 : decode cX7_minutesOfAll 19 = .ok (.istore_n 3, 1) := by decide +kernel
theorem dX7_minutesOfAll_20 : decode cX7_minutesOfAll 20 = .ok (.iload_n 3, 1) := by decide +kernel
theorem dX7_minutesOfAll_21 : decode cX7_minutesOfAll 21 = .ok (.ifCond .ne 13, 3) := by decide +kernel
theorem dX7_minutesOfAll_24 : decode cX7_minutesOfAll 24 = .ok (.iload_n 2, 1) := by decide +kernel
theorem dX7_minutesOfAll_25 : decode cX7_minutesOfAll 25 = .ok (.ifCond .ge 7, 3) := by decide +kernel
theorem dX7_minutesOfAll_28 : decode cX7_minutesOfAll 28 = .ok (.iconst (-1), 1) := by decide +kernel
theorem dX7_minutesOfAll_29 : decode cX7_minutesOfAll 29 = .ok (.goto 4, 3) := by decide +kernel
theorem dX7_minutesOfAll_32 : decode cX7_minutesOfAll 32 = .ok (.iconst 0, 1) := by decide +kernel
theorem dX7_minutesOfAll_33 : decode cX7_minutesOfAll 33 = .ok (.ireturn, 1) := by decide +kernel
theorem dX7_minutesOfAll_34 : decode cX7_minutesOfAll 34 = .ok (.aload_n 0, 1) := by decide +kernel
theorem dX7_minutesOfAll_35 : decode cX7_minutesOfAll 35 = .ok (.invokevirtual 74, 3) := by decide +kernel
theorem dX7_minutesOfAll_38 : decode cX7_minutesOfAll 38 = .ok (.istore 4, 2) := by decide +kernel
theorem dX7_minutesOfAll_40 : decode cX7_minutesOfAll 40 = .ok (.iload 4, 2) := by decide +kernel
theorem dX7_minutesOfAll_42 : decode cX7_minutesOfAll 42 = .ok (.iload_n 2, 1) := by decide +kernel
theorem dX7_minutesOfAll_43 : decode cX7_minutesOfAll 43 = .ok (.if_icmp .gt 33, 3) := by decide +kernel
theorem dX7_minutesOfAll_46 : decode cX7_minutesOfAll 46 = .ok (.iload 4, 2) := by decide +kernel
theorem dX7_minutesOfAll_48 : decode cX7_minutesOfAll 48 = .ok (.bipush 20, 2) := by decide +kernel
theorem dX7_minutesOfAll_50 : decode cX7_minutesOfAll 50 = .ok (.if_icmp .gt 26, 3) := by decide +kernel
theorem dX7_minutesOfAll_53 : decode cX7_minutesOfAll 53 = .ok (.aload_n 0, 1) := by decide +kernel
theorem dX7_minutesOfAll_54 : decode cX7_minutesOfAll 54 = .ok (.iload 4, 2) := by decide +kernel
theorem dX7_minutesOfAll_56 : decode cX7_minutesOfAll 56 = .ok (.invokevirtual 48, 3) := by decide +kernel
theorem dX7_minutesOfAll_59 : decode cX7_minutesOfAll 59 = .ok (.aload_n 0, 1) := by decide +kernel
theorem dX7_minutesOfAll_60 : decode cX7_minutesOfAll 60 = .ok (.getfield 52, 3) := by decide +kernel
theorem dX7_minutesOfAll_63 : decode cX7_minutesOfAll 63 = .ok (.iload_n 3, 1) := by decide +kernel
theorem dX7_minutesOfAll_64 : decode cX7_minutesOfAll 64 = .ok (.if_icmp .ne 6, 3) := by decide +kernel
theorem dX7_minutesOfAll_67 : decode cX7_minutesOfAll 67 = .ok (.iload 4, 2) := by decide +kernel
theorem dX7_minutesOfAll_69 : decode cX7_minutesOfAll 69 = .ok (.ireturn, 1) := by decide +kernel
theorem dX7_minutesOfAll_70 : decode cX7_minutesOfAll 70 = .ok (.iinc 4 1, 3) := by decide +kernel
theorem dX7_minutesOfAll_73 : decode cX7_minutesOfAll 73 = .ok (.goto (-33), 3) := by decide +kernel
theorem dX7_minutesOfAll_76 : decode cX7_minutesOfAll 76 = .ok (.iconst (-1), 1) := by decide +kernel
theorem dX7_minutesOfAll_77 : decode cX7_minutesOfAll 77 = .ok (.ireturn, 1) := by decide +kernel
theorem dX7_mostOut_0 : decode cX7_mostOut 0 = .ok (.aload_n 0, 1) := by decide +kernel
theorem dX7_mostOut_1 : decode cX7_mostOut 1 = .ok (.iload_n 1, 1) := by decide +kernel
theorem dX7_mostOut_2 : decode cX7_mostOut 2 = .ok (.iload_n 3, 1) := by decide +kernel
theorem dX7_mostOut_3 : decode cX7_mostOut 3 = .ok (.invokevirtual 44, 3) := by decide +kernel
theorem dX7_mostOut_6 : decode cX7_mostOut 6 = .ok (.iload_n 2, 1) := by decide +kernel
theorem dX7_mostOut_7 : decode cX7_mostOut 7 = .ok (.iconst 1, 1) := by decide +kernel
theorem dX7_mostOut_8 : decode cX7_mostOut 8 = .ok (.if_icmp .ge 5, 3) := by decide +kernel
theorem dX7_mostOut_11 : decode cX7_mostOut 11 = .ok (.iconst 0, 1) := by decide +kernel
theorem dX7_mostOut_12 : decode cX7_mostOut 12 = .ok (.ireturn, 1) := by decide +kernel
theorem dX7_mostOut_13 : decode cX7_mostOut 13 = .ok (.aload_n 0, 1) := by decide +kernel
theorem dX7_mostOut_14 : decode cX7_mostOut 14 = .ok (.iload_n 2, 1) := by decide +kernel
theorem dX7_mostOut_15 : decode cX7_mostOut 15 = .ok (.invokevirtual 48, 3) := by decide +kernel
theorem dX7_mostOut_18 : decode cX7_mostOut 18 = .ok (.aload_n 0, 1) := by decide +kernel
theorem dX7_mostOut_19 : decode cX7_mostOut 19 = .ok (.getfield 52, 3) := by decide +kernel
theorem dX7_mostOut_22 : decode cX7_mostOut 22 = .ok (.ireturn, 1) := by decide +kernel
theorem dX7_reach_0 : decode cX7_reach 0 = .ok (.iload_n 1, 1) := by decide +kernel
theorem dX7_reach_1 : decode cX7_reach 1 = .ok (.ifCond .lt 20, 3) := by decide +kernel
theorem dX7_reach_4 : decode cX7_reach 4 = .ok (.iload_n 1, 1) := by decide +kernel
theorem dX7_reach_5 : decode cX7_reach 5 = .ok (.sipush 1440, 3) := by decide +kernel
theorem dX7_reach_8 : decode cX7_reach 8 = .ok (.if_icmp .ge 13, 3) := by decide +kernel
theorem dX7_reach_11 : decode cX7_reach 11 = .ok (.aload_n 0, 1) := by decide +kernel
theorem dX7_reach_12 : decode cX7_reach 12 = .ok (.getfield 136, 3) := by decide +kernel
theorem dX7_reach_15 : decode cX7_reach 15 = .ok (.sipush 1440, 3) := by decide +kernel
theorem dX7_reach_18 : decode cX7_reach 18 = .ok (.if_icmp .lt 4, 3) := by decide +kernel
theorem dX7_reach_21 : decode cX7_reach 21 = .ok (.return_, 1) := by decide +kernel
theorem dX7_reach_22 : decode cX7_reach 22 = .ok (.iload_n 1, 1) := by decide +kernel
theorem dX7_reach_23 : decode cX7_reach 23 = .ok (.iconst 2, 1) := by decide +kernel
theorem dX7_reach_24 : decode cX7_reach 24 = .ok (.idiv, 1) := by decide +kernel
theorem dX7_reach_25 : decode cX7_reach 25 = .ok (.bipush 36, 2) := by decide +kernel
theorem dX7_reach_27 : decode cX7_reach 27 = .ok (.idiv, 1) := by decide +kernel
theorem dX7_reach_28 : decode cX7_reach 28 = .ok (.iconst 2, 1) := by decide +kernel
theorem dX7_reach_29 : decode cX7_reach 29 = .ok (.imul, 1) := by decide +kernel
theorem dX7_reach_30 : decode cX7_reach 30 = .ok (.iload_n 1, 1) := by decide +kernel
theorem dX7_reach_31 : decode cX7_reach 31 = .ok (.iconst 2, 1) := by decide +kernel
theorem dX7_reach_32 : decode cX7_reach 32 = .ok (.irem, 1) := by decide +kernel
theorem dX7_reach_33 : decode cX7_reach 33 = .ok (.iadd, 1) := by decide +kernel
theorem dX7_reach_34 : decode cX7_reach 34 = .ok (.istore_n 3, 1) := by decide +kernel
theorem dX7_reach_35 : decode cX7_reach 35 = .ok (.iload_n 1, 1) := by decide +kernel
theorem dX7_reach_36 : decode cX7_reach 36 = .ok (.iconst 2, 1) := by decide +kernel
theorem dX7_reach_37 : decode cX7_reach 37 = .ok (.idiv, 1) := by decide +kernel
theorem dX7_reach_38 : decode cX7_reach 38 = .ok (.bipush 36, 2) := by decide +kernel
theorem dX7_reach_40 : decode cX7_reach 40 = .ok (.irem, 1) := by decide +kernel
theorem dX7_reach_41 : decode cX7_reach 41 = .ok (.invokestatic 84, 3) := by decide +kernel
theorem dX7_reach_44 : decode cX7_reach 44 = .ok (.lstore 4, 2) := by decide +kernel
theorem dX7_reach_46 : decode cX7_reach 46 = .ok (.aload_n 0, 1) := by decide +kernel
theorem dX7_reach_47 : decode cX7_reach 47 = .ok (.getfield 36, 3) := by decide +kernel
theorem dX7_reach_50 : decode cX7_reach 50 = .ok (.iload_n 3, 1) := by decide +kernel
theorem dX7_reach_51 : decode cX7_reach 51 = .ok (.laload, 1) := by decide +kernel
theorem dX7_reach_52 : decode cX7_reach 52 = .ok (.lload 4, 2) := by decide +kernel
theorem dX7_reach_54 : decode cX7_reach 54 = .ok (.land, 1) := by decide +kernel
theorem dX7_reach_55 : decode cX7_reach 55 = .ok (.lconst 0, 1) := by decide +kernel
theorem dX7_reach_56 : decode cX7_reach 56 = .ok (.lcmp, 1) := by decide +kernel
theorem dX7_reach_57 : decode cX7_reach 57 = .ok (.ifCond .ne 41, 3) := by decide +kernel
theorem dX7_reach_60 : decode cX7_reach 60 = .ok (.aload_n 0, 1) := by decide +kernel
theorem dX7_reach_61 : decode cX7_reach 61 = .ok (.getfield 36, 3) := by decide +kernel
theorem dX7_reach_64 : decode cX7_reach 64 = .ok (.iload_n 3, 1) := by decide +kernel
theorem dX7_reach_65 : decode cX7_reach 65 = .ok (.dup2, 1) := by decide +kernel
theorem dX7_reach_66 : decode cX7_reach 66 = .ok (.laload, 1) := by decide +kernel
theorem dX7_reach_67 : decode cX7_reach 67 = .ok (.lload 4, 2) := by decide +kernel
theorem dX7_reach_69 : decode cX7_reach 69 = .ok (.lor, 1) := by decide +kernel
theorem dX7_reach_70 : decode cX7_reach 70 = .ok (.lastore, 1) := by decide +kernel
theorem dX7_reach_71 : decode cX7_reach 71 = .ok (.aload_n 0, 1) := by decide +kernel
theorem dX7_reach_72 : decode cX7_reach 72 = .ok (.getfield 30, 3) := by decide +kernel
theorem dX7_reach_75 : decode cX7_reach 75 = .ok (.iload_n 1, 1) := by decide +kernel
theorem dX7_reach_76 : decode cX7_reach 76 = .ok (.iload_n 2, 1) := by decide +kernel
theorem dX7_reach_77 : decode cX7_reach 77 = .ok (.iastore, 1) := by decide +kernel
theorem dX7_reach_78 : decode cX7_reach 78 = .ok (.aload_n 0, 1) := by decide +kernel
theorem dX7_reach_79 : decode cX7_reach 79 = .ok (.getfield 33, 3) := by decide +kernel
theorem dX7_reach_82 : decode cX7_reach 82 = .ok (.aload_n 0, 1) := by decide +kernel
theorem dX7_reach_83 : decode cX7_reach 83 = .ok (.getfield 136, 3) := by decide +kernel
theorem dX7_reach_86 : decode cX7_reach 86 = .ok (.iload_n 1, 1) := by decide +kernel
theorem dX7_reach_87 : decode cX7_reach 87 = .ok (.iastore, 1) := by decide +kernel
theorem dX7_reach_88 : decode cX7_reach 88 = .ok (.aload_n 0, 1) := by decide +kernel
theorem dX7_reach_89 : decode cX7_reach 89 = .ok (.dup, 1) := by decide +kernel
theorem dX7_reach_90 : decode cX7_reach 90 = .ok (.getfield 136, 3) := by decide +kernel
theorem dX7_reach_93 : decode cX7_reach 93 = .ok (.iconst 1, 1) := by decide +kernel
theorem dX7_reach_94 : decode cX7_reach 94 = .ok (.iadd, 1) := by decide +kernel
theorem dX7_reach_95 : decode cX7_reach 95 = .ok (.putfield 136, 3) := by decide +kernel
theorem dX7_reach_98 : decode cX7_reach 98 = .ok (.return_, 1) := by decide +kernel
theorem dX7_sendAll_0 : decode cX7_sendAll 0 = .ok (.aload_n 0, 1) := by decide +kernel
theorem dX7_sendAll_1 : decode cX7_sendAll 1 = .ok (.iload_n 1, 1) := by decide +kernel
theorem dX7_sendAll_2 : decode cX7_sendAll 2 = .ok (.bipush 20, 2) := by decide +kernel
theorem dX7_sendAll_4 : decode cX7_sendAll 4 = .ok (.invokestatic 126, 3) := by decide +kernel
theorem dX7_sendAll_7 : decode cX7_sendAll 7 = .ok (.putfield 129, 3) := by decide +kernel
theorem dX7_sendAll_10 : decode cX7_sendAll 10 = .ok (.iconst 0, 1) := by decide +kernel
theorem dX7_sendAll_11 : decode cX7_sendAll 11 = .ok (.istore_n 2, 1) := by decide +kernel
theorem dX7_sendAll_12 : decode cX7_sendAll 12 = .ok (.iload_n 2, 1) := by decide +kernel
theorem dX7_sendAll_13 : decode cX7_sendAll 13 = .ok (.bipush 36, 2) := by decide +kernel
theorem dX7_sendAll_15 : decode cX7_sendAll 15 = .ok (.if_icmp .ge 43, 3) := by decide +kernel
theorem dX7_sendAll_18 : decode cX7_sendAll 18 = .ok (.aload_n 0, 1) := by decide +kernel
theorem dX7_sendAll_19 : decode cX7_sendAll 19 = .ok (.getfield 78, 3) := by decide +kernel
theorem dX7_sendAll_22 : decode cX7_sendAll 22 = .ok (.ifCond .le 36, 3) := by decide +kernel
theorem dX7_sendAll_25 : decode cX7_sendAll 25 = .ok (.aload_n 0, 1) := by decide +kernel
theorem dX7_sendAll_26 : decode cX7_sendAll 26 = .ok (.getfield 81, 3) := by decide +kernel
theorem dX7_sendAll_29 : decode cX7_sendAll 29 = .ok (.lconst 0, 1) := by decide +kernel
theorem dX7_sendAll_30 : decode cX7_sendAll 30 = .ok (.lcmp, 1) := by decide +kernel
theorem dX7_sendAll_31 : decode cX7_sendAll 31 = .ok (.ifCond .eq 27, 3) := by decide +kernel
theorem dX7_sendAll_34 : decode cX7_sendAll 34 = .ok (.aload_n 0, 1) := by decide +kernel
theorem dX7_sendAll_35 : decode cX7_sendAll 35 = .ok (.invokevirtual 132, 3) := by decide +kernel
theorem dX7_sendAll_38 : decode cX7_sendAll 38 = .ok (.ifCond .ne 4, 3) := by decide +kernel
theorem dX7_sendAll_41 : decode cX7_sendAll 41 = .ok (.return_, 1) := by decide +kernel
theorem dX7_sendAll_42 : decode cX7_sendAll 42 = .ok (.aload_n 0, 1) := by decide +kernel
theorem dX7_sendAll_43 : decode cX7_sendAll 43 = .ok (.dup, 1) := by decide +kernel
theorem dX7_sendAll_44 : decode cX7_sendAll 44 = .ok (.getfield 52, 3) := by decide +kernel
theorem dX7_sendAll_47 : decode cX7_sendAll 47 = .ok (.iconst 1, 1) := by decide +kernel
theorem dX7_sendAll_48 : decode cX7_sendAll 48 = .ok (.iadd, 1) := by decide +kernel
theorem dX7_sendAll_49 : decode cX7_sendAll 49 = .ok (.putfield 52, 3) := by decide +kernel
theorem dX7_sendAll_52 : decode cX7_sendAll 52 = .ok (.iinc 2 1, 3) := by decide +kernel
theorem dX7_sendAll_55 : decode cX7_sendAll 55 = .ok (.goto (-43), 3) := by decide +kernel
theorem dX7_sendAll_58 : decode cX7_sendAll 58 = .ok (.return_, 1) := by decide +kernel
theorem dX7_sendOne_0 : decode cX7_sendOne 0 = .ok (.iconst 0, 1) := by decide +kernel
theorem dX7_sendOne_1 : decode cX7_sendOne 1 = .ok (.istore_n 1, 1) := by decide +kernel
theorem dX7_sendOne_2 : decode cX7_sendOne 2 = .ok (.iload_n 1, 1) := by decide +kernel
theorem dX7_sendOne_3 : decode cX7_sendOne 3 = .ok (.bipush 40, 2) := by decide +kernel
theorem dX7_sendOne_5 : decode cX7_sendOne 5 = .ok (.if_icmp .ge 16, 3) := by decide +kernel
theorem dX7_sendOne_8 : decode cX7_sendOne 8 = .ok (.aload_n 0, 1) := by decide +kernel
theorem dX7_sendOne_9 : decode cX7_sendOne 9 = .ok (.getfield 36, 3) := by decide +kernel
theorem dX7_sendOne_12 : decode cX7_sendOne 12 = .ok (.iload_n 1, 1) := by decide +kernel
theorem dX7_sendOne_13 : decode cX7_sendOne 13 = .ok (.lconst 0, 1) := by decide +kernel
theorem dX7_sendOne_14 : decode cX7_sendOne 14 = .ok (.lastore, 1) := by decide +kernel
theorem dX7_sendOne_15 : decode cX7_sendOne 15 = .ok (.iinc 1 1, 3) := by decide +kernel
theorem dX7_sendOne_18 : decode cX7_sendOne 18 = .ok (.goto (-16), 3) := by decide +kernel
theorem dX7_sendOne_21 : decode cX7_sendOne 21 = .ok (.aload_n 0, 1) := by decide +kernel
theorem dX7_sendOne_22 : decode cX7_sendOne 22 = .ok (.iconst 0, 1) := by decide +kernel
theorem dX7_sendOne_23 : decode cX7_sendOne 23 = .ok (.putfield 136, 3) := by decide +kernel
theorem dX7_sendOne_26 : decode cX7_sendOne 26 = .ok (.iconst 0, 1) := by decide +kernel
theorem dX7_sendOne_27 : decode cX7_sendOne 27 = .ok (.istore_n 1, 1) := by decide +kernel
theorem dX7_sendOne_28 : decode cX7_sendOne 28 = .ok (.iload_n 1, 1) := by decide +kernel
theorem dX7_sendOne_29 : decode cX7_sendOne 29 = .ok (.bipush 36, 2) := by decide +kernel
theorem dX7_sendOne_31 : decode cX7_sendOne 31 = .ok (.if_icmp .ge 40, 3) := by decide +kernel
theorem dX7_sendOne_34 : decode cX7_sendOne 34 = .ok (.aload_n 0, 1) := by decide +kernel
theorem dX7_sendOne_35 : decode cX7_sendOne 35 = .ok (.getfield 81, 3) := by decide +kernel
theorem dX7_sendOne_38 : decode cX7_sendOne 38 = .ok (.iload_n 1, 1) := by decide +kernel
theorem dX7_sendOne_39 : decode cX7_sendOne 39 = .ok (.invokestatic 84, 3) := by decide +kernel
theorem dX7_sendOne_42 : decode cX7_sendOne 42 = .ok (.land, 1) := by decide +kernel
theorem dX7_sendOne_43 : decode cX7_sendOne 43 = .ok (.lconst 0, 1) := by decide +kernel
theorem dX7_sendOne_44 : decode cX7_sendOne 44 = .ok (.lcmp, 1) := by decide +kernel
theorem dX7_sendOne_45 : decode cX7_sendOne 45 = .ok (.ifCond .eq 20, 3) := by decide +kernel
theorem dX7_sendOne_48 : decode cX7_sendOne 48 = .ok (.aload_n 0, 1) := by decide +kernel
theorem dX7_sendOne_49 : decode cX7_sendOne 49 = .ok (.iconst 0, 1) := by decide +kernel
theorem dX7_sendOne_50 : decode cX7_sendOne 50 = .ok (.iload_n 1, 1) := by decide +kernel
theorem dX7_sendOne_51 : decode cX7_sendOne 51 = .ok (.invokevirtual 139, 3) := by decide +kernel
theorem dX7_sendOne_54 : decode cX7_sendOne 54 = .ok (.ifCond .eq 11, 3) := by decide +kernel
theorem dX7_sendOne_57 : decode cX7_sendOne 57 = .ok (.aload_n 0, 1) := by decide +kernel
theorem dX7_sendOne_58 : decode cX7_sendOne 58 = .ok (.iconst 2, 1) := by decide +kernel
theorem dX7_sendOne_59 : decode cX7_sendOne 59 = .ok (.iload_n 1, 1) := by decide +kernel
theorem dX7_sendOne_60 : decode cX7_sendOne 60 = .ok (.imul, 1) := by decide +kernel
theorem dX7_sendOne_61 : decode cX7_sendOne 61 = .ok (.iconst (-1), 1) := by decide +kernel
theorem dX7_sendOne_62 : decode cX7_sendOne 62 = .ok (.invokevirtual 142, 3) := by decide +kernel
theorem dX7_sendOne_65 : decode cX7_sendOne 65 = .ok (.iinc 1 1, 3) := by decide +kernel
theorem dX7_sendOne_68 : decode cX7_sendOne 68 = .ok (.goto (-40), 3) := by decide +kernel
theorem dX7_sendOne_71 : decode cX7_sendOne 71 = .ok (.iconst 0, 1) := by decide +kernel
theorem dX7_sendOne_72 : decode cX7_sendOne 72 = .ok (.istore_n 1, 1) := by decide +kernel
theorem dX7_sendOne_73 : decode cX7_sendOne 73 = .ok (.iload_n 1, 1) := by decide +kernel
theorem dX7_sendOne_74 : decode cX7_sendOne 74 = .ok (.sipush 1440, 3) := by decide +kernel
theorem dX7_sendOne_77 : decode cX7_sendOne 77 = .ok (.if_icmp .ge 99, 3) := by decide +kernel
theorem dX7_sendOne_80 : decode cX7_sendOne 80 = .ok (.aload_n 0, 1) := by decide +kernel
theorem dX7_sendOne_81 : decode cX7_sendOne 81 = .ok (.getfield 136, 3) := by decide +kernel
theorem dX7_sendOne_84 : decode cX7_sendOne 84 = .ok (.ifCond .le 92, 3) := by decide +kernel
theorem dX7_sendOne_87 : decode cX7_sendOne 87 = .ok (.aload_n 0, 1) := by decide +kernel
theorem dX7_sendOne_88 : decode cX7_sendOne 88 = .ok (.dup, 1) := by decide +kernel
theorem dX7_sendOne_89 : decode cX7_sendOne 89 = .ok (.getfield 136, 3) := by decide +kernel
theorem dX7_sendOne_92 : decode cX7_sendOne 92 = .ok (.iconst 1, 1) := by decide +kernel
theorem dX7_sendOne_93 : decode cX7_sendOne 93 = .ok (.isub, 1) := by decide +kernel
theorem dX7_sendOne_94 : decode cX7_sendOne 94 = .ok (.putfield 136, 3) := by decide +kernel
theorem dX7_sendOne_97 : decode cX7_sendOne 97 = .ok (.aload_n 0, 1) := by decide +kernel
theorem dX7_sendOne_98 : decode cX7_sendOne 98 = .ok (.getfield 33, 3) := by decide +kernel
theorem dX7_sendOne_101 : decode cX7_sendOne 101 = .ok (.aload_n 0, 1) := by decide +kernel
theorem dX7_sendOne_102 : decode cX7_sendOne 102 = .ok (.getfield 136, 3) := by decide +kernel
theorem dX7_sendOne_105 : decode cX7_sendOne 105 = .ok (.iaload, 1) := by decide +kernel
theorem dX7_sendOne_106 : decode cX7_sendOne 106 = .ok (.istore_n 2, 1) := by decide +kernel
theorem dX7_sendOne_107 : decode cX7_sendOne 107 = .ok (.iload_n 2, 1) := by decide +kernel
theorem dX7_sendOne_108 : decode cX7_sendOne 108 = .ok (.iconst 2, 1) := by decide +kernel
theorem dX7_sendOne_109 : decode cX7_sendOne 109 = .ok (.idiv, 1) := by decide +kernel
theorem dX7_sendOne_110 : decode cX7_sendOne 110 = .ok (.istore_n 3, 1) := by decide +kernel
theorem dX7_sendOne_111 : decode cX7_sendOne 111 = .ok (.iconst (-1), 1) := by decide +kernel
theorem dX7_sendOne_112 : decode cX7_sendOne 112 = .ok (.istore 4, 2) := by decide +kernel
theorem dX7_sendOne_114 : decode cX7_sendOne 114 = .ok (.iload_n 2, 1) := by decide +kernel
theorem dX7_sendOne_115 : decode cX7_sendOne 115 = .ok (.iconst 2, 1) := by decide +kernel
theorem dX7_sendOne_116 : decode cX7_sendOne 116 = .ok (.irem, 1) := by decide +kernel
theorem dX7_sendOne_117 : decode cX7_sendOne 117 = .ok (.ifCond .ne 11, 3) := by decide +kernel
theorem dX7_sendOne_120 : decode cX7_sendOne 120 = .ok (.aload_n 0, 1) := by decide +kernel
theorem dX7_sendOne_121 : decode cX7_sendOne 121 = .ok (.iload_n 3, 1) := by decide +kernel
theorem dX7_sendOne_122 : decode cX7_sendOne 122 = .ok (.invokevirtual 145, 3) := by decide +kernel
theorem dX7_sendOne_125 : decode cX7_sendOne 125 = .ok (.goto 10, 3) := by decide +kernel
theorem dX7_sendOne_128 : decode cX7_sendOne 128 = .ok (.aload_n 0, 1) := by decide +kernel
theorem dX7_sendOne_129 : decode cX7_sendOne 129 = .ok (.iload_n 3, 1) := by decide +kernel
theorem dX7_sendOne_130 : decode cX7_sendOne 130 = .ok (.invokevirtual 148, 3) := by decide +kernel
theorem dX7_sendOne_133 : decode cX7_sendOne 133 = .ok (.istore 4, 2) := by decide +kernel
theorem dX7_sendOne_135 : decode cX7_sendOne 135 = .ok (.iload 4, 2) := by decide +kernel
theorem dX7_sendOne_137 : decode cX7_sendOne 137 = .ok (.iconst (-1), 1) := by decide +kernel
theorem dX7_sendOne_138 : decode cX7_sendOne 138 = .ok (.if_icmp .eq 32, 3) := by decide +kernel
theorem dX7_sendOne_141 : decode cX7_sendOne 141 = .ok (.aload_n 0, 1) := by decide +kernel
theorem dX7_sendOne_142 : decode cX7_sendOne 142 = .ok (.getfield 27, 3) := by decide +kernel
theorem dX7_sendOne_145 : decode cX7_sendOne 145 = .ok (.iload 4, 2) := by decide +kernel
theorem dX7_sendOne_147 : decode cX7_sendOne 147 = .ok (.dup2, 1) := by decide +kernel
theorem dX7_sendOne_148 : decode cX7_sendOne 148 = .ok (.iaload, 1) := by decide +kernel
theorem dX7_sendOne_149 : decode cX7_sendOne 149 = .ok (.iconst 1, 1) := by decide +kernel
theorem dX7_sendOne_150 : decode cX7_sendOne 150 = .ok (.iadd, 1) := by decide +kernel
theorem dX7_sendOne_151 : decode cX7_sendOne 151 = .ok (.iastore, 1) := by decide +kernel
theorem dX7_sendOne_152 : decode cX7_sendOne 152 = .ok (.aload_n 0, 1) := by decide +kernel
theorem dX7_sendOne_153 : decode cX7_sendOne 153 = .ok (.getfield 21, 3) := by decide +kernel
theorem dX7_sendOne_156 : decode cX7_sendOne 156 = .ok (.iload_n 3, 1) := by decide +kernel
theorem dX7_sendOne_157 : decode cX7_sendOne 157 = .ok (.iload 4, 2) := by decide +kernel
theorem dX7_sendOne_159 : decode cX7_sendOne 159 = .ok (.bipush 36, 2) := by decide +kernel
theorem dX7_sendOne_161 : decode cX7_sendOne 161 = .ok (.irem, 1) := by decide +kernel
theorem dX7_sendOne_162 : decode cX7_sendOne 162 = .ok (.iastore, 1) := by decide +kernel
theorem dX7_sendOne_163 : decode cX7_sendOne 163 = .ok (.aload_n 0, 1) := by decide +kernel
theorem dX7_sendOne_164 : decode cX7_sendOne 164 = .ok (.iload_n 2, 1) := by decide +kernel
theorem dX7_sendOne_165 : decode cX7_sendOne 165 = .ok (.invokevirtual 151, 3) := by decide +kernel
theorem dX7_sendOne_168 : decode cX7_sendOne 168 = .ok (.iconst 1, 1) := by decide +kernel
theorem dX7_sendOne_169 : decode cX7_sendOne 169 = .ok (.ireturn, 1) := by decide +kernel
theorem dX7_sendOne_170 : decode cX7_sendOne 170 = .ok (.iinc 1 1, 3) := by decide +kernel
theorem dX7_sendOne_173 : decode cX7_sendOne 173 = .ok (.goto (-100), 3) := by decide +kernel
theorem dX7_sendOne_176 : decode cX7_sendOne 176 = .ok (.iconst 0, 1) := by decide +kernel
theorem dX7_sendOne_177 : decode cX7_sendOne 177 = .ok (.ireturn, 1) := by decide +kernel
theorem dX7_spotOrNone_0 : decode cX7_spotOrNone 0 = .ok (.aload_n 0, 1) := by decide +kernel
theorem dX7_spotOrNone_1 : decode cX7_spotOrNone 1 = .ok (.getfield 40, 3) := by decide +kernel
theorem dX7_spotOrNone_4 : decode cX7_spotOrNone 4 = .ok (.getfield 56, 3) := by decide +kernel
theorem dX7_spotOrNone_7 : decode cX7_spotOrNone 7 = .ok (.iload_n 1, 1) := by decide +kernel
theorem dX7_spotOrNone_8 : decode cX7_spotOrNone 8 = .ok (.iload_n 2, 1) := by decide +kernel
theorem dX7_spotOrNone_9 : decode cX7_spotOrNone 9 = .ok (.invokevirtual 120, 3) := by decide +kernel
theorem dX7_spotOrNone_12 : decode cX7_spotOrNone 12 = .ok (.ifCond .eq 11, 3) := by decide +kernel
theorem dX7_spotOrNone_15 : decode cX7_spotOrNone 15 = .ok (.iload_n 1, 1) := by decide +kernel
theorem dX7_spotOrNone_16 : decode cX7_spotOrNone 16 = .ok (.iload_n 2, 1) := by decide +kernel
theorem dX7_spotOrNone_17 : decode cX7_spotOrNone 17 = .ok (.invokestatic 123, 3) := by decide +kernel
theorem dX7_spotOrNone_20 : decode cX7_spotOrNone 20 = .ok (.goto 4, 3) := by decide +kernel
theorem dX7_spotOrNone_23 : decode cX7_spotOrNone 23 = .ok (.iconst (-1), 1) := by decide +kernel
theorem dX7_spotOrNone_24 : decode cX7_spotOrNone 24 = .ok (.ireturn, 1) := by decide +kernel
theorem dX7_turnAsideFromExit_0 : decode cX7_turnAsideFromExit 0 = .ok (.iload_n 1, 1) := by decide +kernel
theorem dX7_turnAsideFromExit_1 : decode cX7_turnAsideFromExit 1 = .ok (.bipush 36, 2) := by decide +kernel
theorem dX7_turnAsideFromExit_3 : decode cX7_turnAsideFromExit 3 = .ok (.irem, 1) := by decide +kernel
theorem dX7_turnAsideFromExit_4 : decode cX7_turnAsideFromExit 4 = .ok (.istore_n 3, 1) := by decide +kernel
theorem dX7_turnAsideFromExit_5 : decode cX7_turnAsideFromExit 5 = .ok (.iconst 0, 1) := by decide +kernel
theorem dX7_turnAsideFromExit_6 : decode cX7_turnAsideFromExit 6 = .ok (.istore 4, 2) := by decide +kernel
theorem dX7_turnAsideFromExit_8 : decode cX7_turnAsideFromExit 8 = .ok (.iload 4, 2) := by decide +kernel
theorem dX7_turnAsideFromExit_10 : decode cX7_turnAsideFromExit 10 = .ok (.iconst 5, 1) := by decide +kernel
theorem dX7_turnAsideFromExit_11 : decode cX7_turnAsideFromExit 11 = .ok (.if_icmp .ge 60, 3) := by decide +kernel
theorem dX7_turnAsideFromExit_14 : decode cX7_turnAsideFromExit 14 = .ok (.iload_n 2, 1) := by decide +kernel
theorem dX7_turnAsideFromExit_15 : decode cX7_turnAsideFromExit 15 = .ok (.ifCond .lt 56, 3) := by decide +kernel
theorem dX7_turnAsideFromExit_18 : decode cX7_turnAsideFromExit 18 = .ok (.aload_n 0, 1) := by decide +kernel
theorem dX7_turnAsideFromExit_19 : decode cX7_turnAsideFromExit 19 = .ok (.getfield 18, 3) := by decide +kernel
theorem dX7_turnAsideFromExit_22 : decode cX7_turnAsideFromExit 22 = .ok (.iconst 5, 1) := by decide +kernel
theorem dX7_turnAsideFromExit_23 : decode cX7_turnAsideFromExit 23 = .ok (.iload_n 3, 1) := by decide +kernel
theorem dX7_turnAsideFromExit_24 : decode cX7_turnAsideFromExit 24 = .ok (.imul, 1) := by decide +kernel
theorem dX7_turnAsideFromExit_25 : decode cX7_turnAsideFromExit 25 = .ok (.iload 4, 2) := by decide +kernel
theorem dX7_turnAsideFromExit_27 : decode cX7_turnAsideFromExit 27 = .ok (.iadd, 1) := by decide +kernel
theorem dX7_turnAsideFromExit_28 : decode cX7_turnAsideFromExit 28 = .ok (.iaload, 1) := by decide +kernel
theorem dX7_turnAsideFromExit_29 : decode cX7_turnAsideFromExit 29 = .ok (.istore 5, 2) := by decide +kernel
theorem dX7_turnAsideFromExit_31 : decode cX7_turnAsideFromExit 31 = .ok (.iload 5, 2) := by decide +kernel
theorem dX7_turnAsideFromExit_33 : decode cX7_turnAsideFromExit 33 = .ok (.iconst (-1), 1) := by decide +kernel
theorem dX7_turnAsideFromExit_34 : decode cX7_turnAsideFromExit 34 = .ok (.if_icmp .eq 31, 3) := by decide +kernel
theorem dX7_turnAsideFromExit_37 : decode cX7_turnAsideFromExit 37 = .ok (.aload_n 0, 1) := by decide +kernel
theorem dX7_turnAsideFromExit_38 : decode cX7_turnAsideFromExit 38 = .ok (.getfield 21, 3) := by decide +kernel
theorem dX7_turnAsideFromExit_41 : decode cX7_turnAsideFromExit 41 = .ok (.iload_n 2, 1) := by decide +kernel
theorem dX7_turnAsideFromExit_42 : decode cX7_turnAsideFromExit 42 = .ok (.iload 5, 2) := by decide +kernel
theorem dX7_turnAsideFromExit_44 : decode cX7_turnAsideFromExit 44 = .ok (.iadd, 1) := by decide +kernel
theorem dX7_turnAsideFromExit_45 : decode cX7_turnAsideFromExit 45 = .ok (.iaload, 1) := by decide +kernel
theorem dX7_turnAsideFromExit_46 : decode cX7_turnAsideFromExit 46 = .ok (.iload_n 3, 1) := by decide +kernel
theorem dX7_turnAsideFromExit_47 : decode cX7_turnAsideFromExit 47 = .ok (.if_icmp .ne 18, 3) := by decide +kernel
theorem dX7_turnAsideFromExit_50 : decode cX7_turnAsideFromExit 50 = .ok (.aload_n 0, 1) := by decide +kernel
theorem dX7_turnAsideFromExit_51 : decode cX7_turnAsideFromExit 51 = .ok (.iconst 2, 1) := by decide +kernel
theorem dX7_turnAsideFromExit_52 : decode cX7_turnAsideFromExit 52 = .ok (.iload_n 2, 1) := by decide +kernel
theorem dX7_turnAsideFromExit_53 : decode cX7_turnAsideFromExit 53 = .ok (.iload 5, 2) := by decide +kernel
theorem dX7_turnAsideFromExit_55 : decode cX7_turnAsideFromExit 55 = .ok (.iadd, 1) := by decide +kernel
theorem dX7_turnAsideFromExit_56 : decode cX7_turnAsideFromExit 56 = .ok (.imul, 1) := by decide +kernel
theorem dX7_turnAsideFromExit_57 : decode cX7_turnAsideFromExit 57 = .ok (.iconst 1, 1) := by decide +kernel
theorem dX7_turnAsideFromExit_58 : decode cX7_turnAsideFromExit 58 = .ok (.iadd, 1) := by decide +kernel
theorem dX7_turnAsideFromExit_59 : decode cX7_turnAsideFromExit 59 = .ok (.iconst 2, 1) := by decide +kernel
theorem dX7_turnAsideFromExit_60 : decode cX7_turnAsideFromExit 60 = .ok (.iload_n 1, 1) := by decide +kernel
theorem dX7_turnAsideFromExit_61 : decode cX7_turnAsideFromExit 61 = .ok (.imul, 1) := by decide +kernel
theorem dX7_turnAsideFromExit_62 : decode cX7_turnAsideFromExit 62 = .ok (.invokevirtual 142, 3) := by decide +kernel
theorem dX7_turnAsideFromExit_65 : decode cX7_turnAsideFromExit 65 = .ok (.iinc 4 1, 3) := by decide +kernel
theorem dX7_turnAsideFromExit_68 : decode cX7_turnAsideFromExit 68 = .ok (.goto (-60), 3) := by decide +kernel
theorem dX7_turnAsideFromExit_71 : decode cX7_turnAsideFromExit 71 = .ok (.return_, 1) := by decide +kernel
theorem dX7_turnPaths_0 : decode cX7_turnPaths 0 = .ok (.iload_n 1, 1) := by decide +kernel
theorem dX7_turnPaths_1 : decode cX7_turnPaths 1 = .ok (.istore_n 2, 1) := by decide +kernel
theorem dX7_turnPaths_2 : decode cX7_turnPaths 2 = .ok (.iconst 0, 1) := by decide +kernel
theorem dX7_turnPaths_3 : decode cX7_turnPaths 3 = .ok (.istore_n 3, 1) := by decide +kernel
theorem dX7_turnPaths_4 : decode cX7_turnPaths 4 = .ok (.iload_n 3, 1) := by decide +kernel
theorem dX7_turnPaths_5 : decode cX7_turnPaths 5 = .ok (.sipush 1440, 3) := by decide +kernel
theorem dX7_turnPaths_8 : decode cX7_turnPaths 8 = .ok (.if_icmp .ge 105, 3) := by decide +kernel
theorem dX7_turnPaths_11 : decode cX7_turnPaths 11 = .ok (.aload_n 0, 1) := by decide +kernel
theorem dX7_turnPaths_12 : decode cX7_turnPaths 12 = .ok (.getfield 30, 3) := by decide +kernel
theorem dX7_turnPaths_15 : decode cX7_turnPaths 15 = .ok (.iload_n 2, 1) := by decide +kernel
theorem dX7_turnPaths_16 : decode cX7_turnPaths 16 = .ok (.iaload, 1) := by decide +kernel
theorem dX7_turnPaths_17 : decode cX7_turnPaths 17 = .ok (.iconst (-1), 1) := by decide +kernel
theorem dX7_turnPaths_18 : decode cX7_turnPaths 18 = .ok (.if_icmp .eq 95, 3) := by decide +kernel
theorem dX7_turnPaths_21 : decode cX7_turnPaths 21 = .ok (.aload_n 0, 1) := by decide +kernel
theorem dX7_turnPaths_22 : decode cX7_turnPaths 22 = .ok (.getfield 30, 3) := by decide +kernel
theorem dX7_turnPaths_25 : decode cX7_turnPaths 25 = .ok (.iload_n 2, 1) := by decide +kernel
theorem dX7_turnPaths_26 : decode cX7_turnPaths 26 = .ok (.iaload, 1) := by decide +kernel
theorem dX7_turnPaths_27 : decode cX7_turnPaths 27 = .ok (.istore 4, 2) := by decide +kernel
theorem dX7_turnPaths_29 : decode cX7_turnPaths 29 = .ok (.iload 4, 2) := by decide +kernel
theorem dX7_turnPaths_31 : decode cX7_turnPaths 31 = .ok (.iconst 2, 1) := by decide +kernel
theorem dX7_turnPaths_32 : decode cX7_turnPaths 32 = .ok (.idiv, 1) := by decide +kernel
theorem dX7_turnPaths_33 : decode cX7_turnPaths 33 = .ok (.istore 5, 2) := by decide +kernel
theorem dX7_turnPaths_35 : decode cX7_turnPaths 35 = .ok (.iload 4, 2) := by decide +kernel
theorem dX7_turnPaths_37 : decode cX7_turnPaths 37 = .ok (.iconst 2, 1) := by decide +kernel
theorem dX7_turnPaths_38 : decode cX7_turnPaths 38 = .ok (.irem, 1) := by decide +kernel
theorem dX7_turnPaths_39 : decode cX7_turnPaths 39 = .ok (.iconst 1, 1) := by decide +kernel
theorem dX7_turnPaths_40 : decode cX7_turnPaths 40 = .ok (.if_icmp .ne 30, 3) := by decide +kernel
theorem dX7_turnPaths_43 : decode cX7_turnPaths 43 = .ok (.iload 4, 2) := by decide +kernel
theorem dX7_turnPaths_45 : decode cX7_turnPaths 45 = .ok (.iload_n 2, 1) := by decide +kernel
theorem dX7_turnPaths_46 : decode cX7_turnPaths 46 = .ok (.iconst 1, 1) := by decide +kernel
theorem dX7_turnPaths_47 : decode cX7_turnPaths 47 = .ok (.iadd, 1) := by decide +kernel
theorem dX7_turnPaths_48 : decode cX7_turnPaths 48 = .ok (.if_icmp .ne 22, 3) := by decide +kernel
theorem dX7_turnPaths_51 : decode cX7_turnPaths 51 = .ok (.aload_n 0, 1) := by decide +kernel
theorem dX7_turnPaths_52 : decode cX7_turnPaths 52 = .ok (.getfield 21, 3) := by decide +kernel
theorem dX7_turnPaths_55 : decode cX7_turnPaths 55 = .ok (.iload 5, 2) := by decide +kernel
theorem dX7_turnPaths_57 : decode cX7_turnPaths 57 = .ok (.iconst (-1), 1) := by decide +kernel
theorem dX7_turnPaths_58 : decode cX7_turnPaths 58 = .ok (.iastore, 1) := by decide +kernel
theorem dX7_turnPaths_59 : decode cX7_turnPaths 59 = .ok (.aload_n 0, 1) := by decide +kernel
theorem dX7_turnPaths_60 : decode cX7_turnPaths 60 = .ok (.getfield 24, 3) := by decide +kernel
theorem dX7_turnPaths_63 : decode cX7_turnPaths 63 = .ok (.iload 5, 2) := by decide +kernel
theorem dX7_turnPaths_65 : decode cX7_turnPaths 65 = .ok (.iconst (-1), 1) := by decide +kernel
theorem dX7_turnPaths_66 : decode cX7_turnPaths 66 = .ok (.iastore, 1) := by decide +kernel
theorem dX7_turnPaths_67 : decode cX7_turnPaths 67 = .ok (.goto 37, 3) := by decide +kernel
theorem dX7_turnPaths_70 : decode cX7_turnPaths 70 = .ok (.iload 4, 2) := by decide +kernel
theorem dX7_turnPaths_72 : decode cX7_turnPaths 72 = .ok (.iconst 2, 1) := by decide +kernel
theorem dX7_turnPaths_73 : decode cX7_turnPaths 73 = .ok (.irem, 1) := by decide +kernel
theorem dX7_turnPaths_74 : decode cX7_turnPaths 74 = .ok (.iconst 1, 1) := by decide +kernel
theorem dX7_turnPaths_75 : decode cX7_turnPaths 75 = .ok (.if_icmp .ne 29, 3) := by decide +kernel
theorem dX7_turnPaths_78 : decode cX7_turnPaths 78 = .ok (.aload_n 0, 1) := by decide +kernel
theorem dX7_turnPaths_79 : decode cX7_turnPaths 79 = .ok (.getfield 21, 3) := by decide +kernel
theorem dX7_turnPaths_82 : decode cX7_turnPaths 82 = .ok (.iload 5, 2) := by decide +kernel
theorem dX7_turnPaths_84 : decode cX7_turnPaths 84 = .ok (.iload_n 2, 1) := by decide +kernel
theorem dX7_turnPaths_85 : decode cX7_turnPaths 85 = .ok (.iconst 2, 1) := by decide +kernel
theorem dX7_turnPaths_86 : decode cX7_turnPaths 86 = .ok (.idiv, 1) := by decide +kernel
theorem dX7_turnPaths_87 : decode cX7_turnPaths 87 = .ok (.bipush 36, 2) := by decide +kernel
theorem dX7_turnPaths_89 : decode cX7_turnPaths 89 = .ok (.irem, 1) := by decide +kernel
theorem dX7_turnPaths_90 : decode cX7_turnPaths 90 = .ok (.iastore, 1) := by decide +kernel
theorem dX7_turnPaths_91 : decode cX7_turnPaths 91 = .ok (.aload_n 0, 1) := by decide +kernel
theorem dX7_turnPaths_92 : decode cX7_turnPaths 92 = .ok (.getfield 24, 3) := by decide +kernel
theorem dX7_turnPaths_95 : decode cX7_turnPaths 95 = .ok (.iload_n 2, 1) := by decide +kernel
theorem dX7_turnPaths_96 : decode cX7_turnPaths 96 = .ok (.iconst 2, 1) := by decide +kernel
theorem dX7_turnPaths_97 : decode cX7_turnPaths 97 = .ok (.idiv, 1) := by decide +kernel
theorem dX7_turnPaths_98 : decode cX7_turnPaths 98 = .ok (.iload 5, 2) := by decide +kernel
theorem dX7_turnPaths_100 : decode cX7_turnPaths 100 = .ok (.bipush 36, 2) := by decide +kernel
theorem dX7_turnPaths_102 : decode cX7_turnPaths 102 = .ok (.irem, 1) := by decide +kernel
theorem dX7_turnPaths_103 : decode cX7_turnPaths 103 = .ok (.iastore, 1) := by decide +kernel
theorem dX7_turnPaths_104 : decode cX7_turnPaths 104 = .ok (.iload 4, 2) := by decide +kernel
theorem dX7_turnPaths_106 : decode cX7_turnPaths 106 = .ok (.istore_n 2, 1) := by decide +kernel
theorem dX7_turnPaths_107 : decode cX7_turnPaths 107 = .ok (.iinc 3 1, 3) := by decide +kernel
theorem dX7_turnPaths_110 : decode cX7_turnPaths 110 = .ok (.goto (-106), 3) := by decide +kernel
theorem dX7_turnPaths_113 : decode cX7_turnPaths 113 = .ok (.aload_n 0, 1) := by decide +kernel
theorem dX7_turnPaths_114 : decode cX7_turnPaths 114 = .ok (.getfield 24, 3) := by decide +kernel
theorem dX7_turnPaths_117 : decode cX7_turnPaths 117 = .ok (.iload_n 2, 1) := by decide +kernel
theorem dX7_turnPaths_118 : decode cX7_turnPaths 118 = .ok (.iconst 2, 1) := by decide +kernel
theorem dX7_turnPaths_119 : decode cX7_turnPaths 119 = .ok (.idiv, 1) := by decide +kernel
theorem dX7_turnPaths_120 : decode cX7_turnPaths 120 = .ok (.bipush (-2), 2) := by decide +kernel
theorem dX7_turnPaths_122 : decode cX7_turnPaths 122 = .ok (.iastore, 1) := by decide +kernel
theorem dX7_turnPaths_123 : decode cX7_turnPaths 123 = .ok (.aload_n 0, 1) := by decide +kernel
theorem dX7_turnPaths_124 : decode cX7_turnPaths 124 = .ok (.dup, 1) := by decide +kernel
theorem dX7_turnPaths_125 : decode cX7_turnPaths 125 = .ok (.getfield 81, 3) := by decide +kernel
theorem dX7_turnPaths_128 : decode cX7_turnPaths 128 = .ok (.iload_n 2, 1) := by decide +kernel
theorem dX7_turnPaths_129 : decode cX7_turnPaths 129 = .ok (.iconst 2, 1) := by decide +kernel
theorem dX7_turnPaths_130 : decode cX7_turnPaths 130 = .ok (.idiv, 1) := by decide +kernel
theorem dX7_turnPaths_131 : decode cX7_turnPaths 131 = .ok (.invokestatic 84, 3) := by decide +kernel
theorem dX7_turnPaths_134 : decode cX7_turnPaths 134 = .ok (.ldc2_w 115, 3) := by decide +kernel
theorem dX7_turnPaths_137 : decode cX7_turnPaths 137 = .ok (.lxor, 1) := by decide +kernel
theorem dX7_turnPaths_138 : decode cX7_turnPaths 138 = .ok (.land, 1) := by decide +kernel
theorem dX7_turnPaths_139 : decode cX7_turnPaths 139 = .ok (.putfield 81, 3) := by decide +kernel
theorem dX7_turnPaths_142 : decode cX7_turnPaths 142 = .ok (.return_, 1) := by decide +kernel
theorem dX8_cut_0 : decode cX8_cut 0 = .ok (.aload_n 0, 1) := by decide +kernel
theorem dX8_cut_1 : decode cX8_cut 1 = .ok (.getfield 19, 3) := by decide +kernel
theorem dX8_cut_4 : decode cX8_cut 4 = .ok (.tableswitch 42 0 2 #[28, 33, 38], 28) := by decide +kernel
theorem dX8_cut_32 : decode cX8_cut 32 = .ok (.lload_n 1, 1) := by decide +kernel
theorem dX8_cut_33 : decode cX8_cut 33 = .ok (.l2i, 1) := by decide +kernel
theorem dX8_cut_34 : decode cX8_cut 34 = .ok (.i2b, 1) := by decide +kernel
theorem dX8_cut_35 : decode cX8_cut 35 = .ok (.i2l, 1) := by decide +kernel
theorem dX8_cut_36 : decode cX8_cut 36 = .ok (.lreturn, 1) := by decide +kernel
theorem dX8_cut_37 : decode cX8_cut 37 = .ok (.lload_n 1, 1) := by decide +kernel
theorem dX8_cut_38 : decode cX8_cut 38 = .ok (.l2i, 1) := by decide +kernel
theorem dX8_cut_39 : decode cX8_cut 39 = .ok (.i2s, 1) := by decide +kernel
theorem dX8_cut_40 : decode cX8_cut 40 = .ok (.i2l, 1) := by decide +kernel
theorem dX8_cut_41 : decode cX8_cut 41 = .ok (.lreturn, 1) := by decide +kernel
theorem dX8_cut_42 : decode cX8_cut 42 = .ok (.lload_n 1, 1) := by decide +kernel
theorem dX8_cut_43 : decode cX8_cut 43 = .ok (.l2i, 1) := by decide +kernel
theorem dX8_cut_44 : decode cX8_cut 44 = .ok (.i2l, 1) := by decide +kernel
theorem dX8_cut_45 : decode cX8_cut 45 = .ok (.lreturn, 1) := by decide +kernel
theorem dX8_cut_46 : decode cX8_cut 46 = .ok (.lload_n 1, 1) := by decide +kernel
theorem dX8_cut_47 : decode cX8_cut 47 = .ok (.lreturn, 1) := by decide +kernel
theorem dX8_hasRange_0 : decode cX8_hasRange 0 = .ok (.iload_n 1, 1) := by decide +kernel
theorem dX8_hasRange_1 : decode cX8_hasRange 1 = .ok (.ifCond .lt 29, 3) := by decide +kernel
theorem dX8_hasRange_4 : decode cX8_hasRange 4 = .ok (.iload_n 2, 1) := by decide +kernel
theorem dX8_hasRange_5 : decode cX8_hasRange 5 = .ok (.ifCond .lt 25, 3) := by decide +kernel
theorem dX8_hasRange_8 : decode cX8_hasRange 8 = .ok (.iload_n 2, 1) := by decide +kernel
theorem dX8_hasRange_9 : decode cX8_hasRange 9 = .ok (.aload_n 0, 1) := by decide +kernel
theorem dX8_hasRange_10 : decode cX8_hasRange 10 = .ok (.getfield 15, 3) := by decide +kernel
theorem dX8_hasRange_13 : decode cX8_hasRange 13 = .ok (.if_icmp .gt 17, 3) := by decide +kernel
theorem dX8_hasRange_16 : decode cX8_hasRange 16 = .ok (.iload_n 1, 1) := by decide +kernel
theorem dX8_hasRange_17 : decode cX8_hasRange 17 = .ok (.aload_n 0, 1) := by decide +kernel
theorem dX8_hasRange_18 : decode cX8_hasRange 18 = .ok (.getfield 15, 3) := by decide +kernel
theorem dX8_hasRange_21 : decode cX8_hasRange 21 = .ok (.iload_n 2, 1) := by decide +kernel
theorem dX8_hasRange_22 : decode cX8_hasRange 22 = .ok (.isub, 1) := by decide +kernel
theorem dX8_hasRange_23 : decode cX8_hasRange 23 = .ok (.if_icmp .gt 7, 3) := by decide +kernel
theorem dX8_hasRange_26 : decode cX8_hasRange 26 = .ok (.iconst 1, 1) := by decide +kernel
theorem dX8_hasRange_27 : decode cX8_hasRange 27 = .ok (.goto 4, 3) := by decide +kernel
theorem dX8_hasRange_30 : decode cX8_hasRange 30 = .ok (.iconst 0, 1) := by decide +kernel
theorem dX8_hasRange_31 : decode cX8_hasRange 31 = .ok (.ireturn, 1) := by decide +kernel
theorem dX8_hasRow_0 : decode cX8_hasRow 0 = .ok (.aload_n 0, 1) := by decide +kernel
theorem dX8_hasRow_1 : decode cX8_hasRow 1 = .ok (.getfield 15, 3) := by decide +kernel
theorem dX8_hasRow_4 : decode cX8_hasRow 4 = .ok (.iconst (-1), 1) := by decide +kernel
theorem dX8_hasRow_5 : decode cX8_hasRow 5 = .ok (.if_icmp .eq 7, 3) := by decide +kernel
theorem dX8_hasRow_8 : decode cX8_hasRow 8 = .ok (.iconst 1, 1) := by decide +kernel
theorem dX8_hasRow_9 : decode cX8_hasRow 9 = .ok (.goto 4, 3) := by decide +kernel
theorem dX8_hasRow_12 : decode cX8_hasRow 12 = .ok (.iconst 0, 1) := by decide +kernel
theorem dX8_hasRow_13 : decode cX8_hasRow 13 = .ok (.ireturn, 1) := by decide +kernel
theorem dX8_init_0 : decode cX8_init 0 = .ok (.aload_n 0, 1) := by decide +kernel
theorem dX8_init_1 : decode cX8_init 1 = .ok (.invokespecial 3, 3) := by decide +kernel
theorem dX8_init_4 : decode cX8_init 4 = .ok (.aload_n 0, 1) := by decide +kernel
theorem dX8_init_5 : decode cX8_init 5 = .ok (.bipush 60, 2) := by decide +kernel
theorem dX8_init_7 : decode cX8_init 7 = .ok (.newarray .long, 2) := by decide +kernel
theorem dX8_init_9 : decode cX8_init 9 = .ok (.putfield 9, 3) := by decide +kernel
theorem dX8_init_12 : decode cX8_init 12 = .ok (.aload_n 0, 1) := by decide +kernel
theorem dX8_init_13 : decode cX8_init 13 = .ok (.iconst (-1), 1) := by decide +kernel
theorem dX8_init_14 : decode cX8_init 14 = .ok (.putfield 15, 3) := by decide +kernel
theorem dX8_init_17 : decode cX8_init 17 = .ok (.return_, 1) := by decide +kernel
theorem dX8_lay_0 : decode cX8_lay 0 = .ok (.aload_n 0, 1) := by decide +kernel
theorem dX8_lay_1 : decode cX8_lay 1 = .ok (.iload_n 1, 1) := by decide +kernel
theorem dX8_lay_2 : decode cX8_lay 2 = .ok (.putfield 19, 3) := by decide +kernel
theorem dX8_lay_5 : decode cX8_lay 5 = .ok (.aload_n 0, 1) := by decide +kernel
theorem dX8_lay_6 : decode cX8_lay 6 = .ok (.iload_n 2, 1) := by decide +kernel
theorem dX8_lay_7 : decode cX8_lay 7 = .ok (.putfield 15, 3) := by decide +kernel
theorem dX8_lay_10 : decode cX8_lay 10 = .ok (.iconst 0, 1) := by decide +kernel
theorem dX8_lay_11 : decode cX8_lay 11 = .ok (.istore_n 3, 1) := by decide +kernel
theorem dX8_lay_12 : decode cX8_lay 12 = .ok (.iload_n 3, 1) := by decide +kernel
theorem dX8_lay_13 : decode cX8_lay 13 = .ok (.bipush 60, 2) := by decide +kernel
theorem dX8_lay_15 : decode cX8_lay 15 = .ok (.if_icmp .ge 16, 3) := by decide +kernel
theorem dX8_lay_18 : decode cX8_lay 18 = .ok (.aload_n 0, 1) := by decide +kernel
theorem dX8_lay_19 : decode cX8_lay 19 = .ok (.getfield 9, 3) := by decide +kernel
theorem dX8_lay_22 : decode cX8_lay 22 = .ok (.iload_n 3, 1) := by decide +kernel
theorem dX8_lay_23 : decode cX8_lay 23 = .ok (.lconst 0, 1) := by decide +kernel
theorem dX8_lay_24 : decode cX8_lay 24 = .ok (.lastore, 1) := by decide +kernel
theorem dX8_lay_25 : decode cX8_lay 25 = .ok (.iinc 3 1, 3) := by decide +kernel
theorem dX8_lay_28 : decode cX8_lay 28 = .ok (.goto (-16), 3) := by decide +kernel
theorem dX8_lay_31 : decode cX8_lay 31 = .ok (.return_, 1) := by decide +kernel
theorem dX8_put_0 : decode cX8_put 0 = .ok (.iload_n 1, 1) := by decide +kernel
theorem dX8_put_1 : decode cX8_put 1 = .ok (.ifCond .lt 28, 3) := by decide +kernel
theorem dX8_put_4 : decode cX8_put 4 = .ok (.iload_n 1, 1) := by decide +kernel
theorem dX8_put_5 : decode cX8_put 5 = .ok (.aload_n 0, 1) := by decide +kernel
theorem dX8_put_6 : decode cX8_put 6 = .ok (.getfield 15, 3) := by decide +kernel
theorem dX8_put_9 : decode cX8_put 9 = .ok (.if_icmp .ge 20, 3) := by decide +kernel
theorem dX8_put_12 : decode cX8_put 12 = .ok (.iload_n 1, 1) := by decide +kernel
theorem dX8_put_13 : decode cX8_put 13 = .ok (.bipush 60, 2) := by decide +kernel
theorem dX8_put_15 : decode cX8_put 15 = .ok (.if_icmp .ge 14, 3) := by decide +kernel
theorem dX8_put_18 : decode cX8_put 18 = .ok (.aload_n 0, 1) := by decide +kernel
theorem dX8_put_19 : decode cX8_put 19 = .ok (.getfield 9, 3) := by decide +kernel
theorem dX8_put_22 : decode cX8_put 22 = .ok (.iload_n 1, 1) := by decide +kernel
theorem dX8_put_23 : decode cX8_put 23 = .ok (.aload_n 0, 1) := by decide +kernel
theorem dX8_put_24 : decode cX8_put 24 = .ok (.lload_n 2, 1) := by decide +kernel
theorem dX8_put_25 : decode cX8_put 25 = .ok (.invokevirtual 22, 3) := by decide +kernel
theorem dX8_put_28 : decode cX8_put 28 = .ok (.lastore, 1) := by decide +kernel
theorem dX8_put_29 : decode cX8_put 29 = .ok (.return_, 1) := by decide +kernel
theorem dX8_small_0 : decode cX8_small 0 = .ok (.iload_n 1, 1) := by decide +kernel
theorem dX8_small_1 : decode cX8_small 1 = .ok (.ifCond .lt 41, 3) := by decide +kernel
theorem dX8_small_4 : decode cX8_small 4 = .ok (.iload_n 1, 1) := by decide +kernel
theorem dX8_small_5 : decode cX8_small 5 = .ok (.aload_n 0, 1) := by decide +kernel
theorem dX8_small_6 : decode cX8_small 6 = .ok (.getfield 15, 3) := by decide +kernel
theorem dX8_small_9 : decode cX8_small 9 = .ok (.if_icmp .ge 33, 3) := by decide +kernel
theorem dX8_small_12 : decode cX8_small 12 = .ok (.iload_n 1, 1) := by decide +kernel
theorem dX8_small_13 : decode cX8_small 13 = .ok (.bipush 60, 2) := by decide +kernel
theorem dX8_small_15 : decode cX8_small 15 = .ok (.if_icmp .ge 27, 3) := by decide +kernel
theorem dX8_small_18 : decode cX8_small 18 = .ok (.aload_n 0, 1) := by decide +kernel
theorem dX8_small_19 : decode cX8_small 19 = .ok (.getfield 9, 3) := by decide +kernel
theorem dX8_small_22 : decode cX8_small 22 = .ok (.iload_n 1, 1) := by decide +kernel
theorem dX8_small_23 : decode cX8_small 23 = .ok (.laload, 1) := by decide +kernel
theorem dX8_small_24 : decode cX8_small 24 = .ok (.lconst 0, 1) := by decide +kernel
theorem dX8_small_25 : decode cX8_small 25 = .ok (.lcmp, 1) := by decide +kernel
theorem dX8_small_26 : decode cX8_small 26 = .ok (.ifCond .lt 16, 3) := by decide +kernel
theorem dX8_small_29 : decode cX8_small 29 = .ok (.aload_n 0, 1) := by decide +kernel
theorem dX8_small_30 : decode cX8_small 30 = .ok (.getfield 9, 3) := by decide +kernel
theorem dX8_small_33 : decode cX8_small 33 = .ok (.iload_n 1, 1) := by decide +kernel
theorem dX8_small_34 : decode cX8_small 34 = .ok (.laload, 1) := by decide +kernel
theorem dX8_small_35 : decode cX8_small 35 = .ok (.ldc2_w 26, 3) := by decide +kernel
theorem dX8_small_38 : decode cX8_small 38 = .ok (.lcmp, 1) := by decide +kernel
theorem dX8_small_39 : decode cX8_small 39 = .ok (.ifCond .le 5, 3) := by decide +kernel
theorem dX8_small_42 : decode cX8_small 42 = .ok (.iconst (-1), 1) := by decide +kernel
theorem dX8_small_43 : decode cX8_small 43 = .ok (.ireturn, 1) := by decide +kernel
theorem dX8_small_44 : decode cX8_small 44 = .ok (.aload_n 0, 1) := by decide +kernel
theorem dX8_small_45 : decode cX8_small 45 = .ok (.getfield 9, 3) := by decide +kernel
theorem dX8_small_48 : decode cX8_small 48 = .ok (.iload_n 1, 1) := by decide +kernel
theorem dX8_small_49 : decode cX8_small 49 = .ok (.laload, 1) := by decide +kernel
theorem dX8_small_50 : decode cX8_small 50 = .ok (.l2i, 1) := by decide +kernel
theorem dX8_small_51 : decode cX8_small 51 = .ok (.ireturn, 1) := by decide +kernel
theorem dX9_areGood_0 : decode cX9_areGood 0 = .ok (.iconst 0, 1) := by decide +kernel
theorem dX9_areGood_1 : decode cX9_areGood 1 = .ok (.istore_n 2, 1) := by decide +kernel
theorem dX9_areGood_2 : decode cX9_areGood 2 = .ok (.iload_n 2, 1) := by decide +kernel
theorem dX9_areGood_3 : decode cX9_areGood 3 = .ok (.aload_n 0, 1) := by decide +kernel
theorem dX9_areGood_4 : decode cX9_areGood 4 = .ok (.getfield 23, 3) := by decide +kernel
theorem dX9_areGood_7 : decode cX9_areGood 7 = .ok (.if_icmp .ge 34, 3) := by decide +kernel
theorem dX9_areGood_10 : decode cX9_areGood 10 = .ok (.iload_n 2, 1) := by decide +kernel
theorem dX9_areGood_11 : decode cX9_areGood 11 = .ok (.bipush 9, 2) := by decide +kernel
theorem dX9_areGood_13 : decode cX9_areGood 13 = .ok (.if_icmp .ge 28, 3) := by decide +kernel
theorem dX9_areGood_16 : decode cX9_areGood 16 = .ok (.iload_n 1, 1) := by decide +kernel
theorem dX9_areGood_17 : decode cX9_areGood 17 = .ok (.iload_n 2, 1) := by decide +kernel
theorem dX9_areGood_18 : decode cX9_areGood 18 = .ok (.invokestatic 64, 3) := by decide +kernel
theorem dX9_areGood_21 : decode cX9_areGood 21 = .ok (.iand, 1) := by decide +kernel
theorem dX9_areGood_22 : decode cX9_areGood 22 = .ok (.ifCond .eq 13, 3) := by decide +kernel
theorem dX9_areGood_25 : decode cX9_areGood 25 = .ok (.aload_n 0, 1) := by decide +kernel
theorem dX9_areGood_26 : decode cX9_areGood 26 = .ok (.iload_n 2, 1) := by decide +kernel
theorem dX9_areGood_27 : decode cX9_areGood 27 = .ok (.invokevirtual 67, 3) := by decide +kernel
theorem dX9_areGood_30 : decode cX9_areGood 30 = .ok (.ifCond .ne 5, 3) := by decide +kernel
theorem dX9_areGood_33 : decode cX9_areGood 33 = .ok (.iconst 0, 1) := by decide +kernel
theorem dX9_areGood_34 : decode cX9_areGood 34 = .ok (.ireturn, 1) := by decide +kernel
theorem dX9_areGood_35 : decode cX9_areGood 35 = .ok (.iinc 2 1, 3) := by decide +kernel
theorem dX9_areGood_38 : decode cX9_areGood 38 = .ok (.goto (-36), 3) := by decide +kernel
theorem dX9_areGood_41 : decode cX9_areGood 41 = .ok (.iconst 1, 1) := by decide +kernel
theorem dX9_areGood_42 : decode cX9_areGood 42 = .ok (.ireturn, 1) := by decide +kernel
theorem dX9_init_0 : decode cX9_init 0 = .ok (.aload_n 0, 1) := by decide +kernel
theorem dX9_init_1 : decode cX9_init 1 = .ok (.invokespecial 3, 3) := by decide +kernel
theorem dX9_init_4 : decode cX9_init 4 = .ok (.aload_n 0, 1) := by decide +kernel
theorem dX9_init_5 : decode cX9_init 5 = .ok (.sipush 512, 3) := by decide +kernel
theorem dX9_init_8 : decode cX9_init 8 = .ok (.newarray .long, 2) := by decide +kernel
theorem dX9_init_10 : decode cX9_init 10 = .ok (.putfield 9, 3) := by decide +kernel
theorem dX9_init_13 : decode cX9_init 13 = .ok (.return_, 1) := by decide +kernel
theorem dX9_leastSet_0 : decode cX9_leastSet 0 = .ok (.aload_n 1, 1) := by decide +kernel
theorem dX9_leastSet_1 : decode cX9_leastSet 1 = .ok (.iconst (-1), 1) := by decide +kernel
theorem dX9_leastSet_2 : decode cX9_leastSet 2 = .ok (.iload_n 3, 1) := by decide +kernel
theorem dX9_leastSet_3 : decode cX9_leastSet 3 = .ok (.invokestatic 19, 3) := by decide +kernel
theorem dX9_leastSet_6 : decode cX9_leastSet 6 = .ok (.lstore 4, 2) := by decide +kernel
theorem dX9_leastSet_8 : decode cX9_leastSet 8 = .ok (.iconst 1, 1) := by decide +kernel
theorem dX9_leastSet_9 : decode cX9_leastSet 9 = .ok (.iconst 0, 1) := by decide +kernel
theorem dX9_leastSet_10 : decode cX9_leastSet 10 = .ok (.aload_n 1, 1) := by decide +kernel
theorem dX9_leastSet_11 : decode cX9_leastSet 11 = .ok (.getfield 23, 3) := by decide +kernel
theorem dX9_leastSet_14 : decode cX9_leastSet 14 = .ok (.bipush 9, 2) := by decide +kernel
theorem dX9_leastSet_16 : decode cX9_leastSet 16 = .ok (.invokestatic 29, 3) := by decide +kernel
theorem dX9_leastSet_19 : decode cX9_leastSet 19 = .ok (.invokestatic 35, 3) := by decide +kernel
theorem dX9_leastSet_22 : decode cX9_leastSet 22 = .ok (.ishl, 1) := by decide +kernel
theorem dX9_leastSet_23 : decode cX9_leastSet 23 = .ok (.istore 6, 2) := by decide +kernel
theorem dX9_leastSet_25 : decode cX9_leastSet 25 = .ok (.aload_n 0, 1) := by decide +kernel
theorem dX9_leastSet_26 : decode cX9_leastSet 26 = .ok (.getfield 9, 3) := by decide +kernel
theorem dX9_leastSet_29 : decode cX9_leastSet 29 = .ok (.iconst 0, 1) := by decide +kernel
theorem dX9_leastSet_30 : decode cX9_leastSet 30 = .ok (.lconst 0, 1) := by decide +kernel
theorem dX9_leastSet_31 : decode cX9_leastSet 31 = .ok (.lastore, 1) := by decide +kernel
theorem dX9_leastSet_32 : decode cX9_leastSet 32 = .ok (.iconst 0, 1) := by decide +kernel
theorem dX9_leastSet_33 : decode cX9_leastSet 33 = .ok (.istore 7, 2) := by decide +kernel
theorem dX9_leastSet_35 : decode cX9_leastSet 35 = .ok (.iload 7, 2) := by decide +kernel
theorem dX9_leastSet_37 : decode cX9_leastSet 37 = .ok (.aload_n 1, 1) := by decide +kernel
theorem dX9_leastSet_38 : decode cX9_leastSet 38 = .ok (.getfield 23, 3) := by decide +kernel
theorem dX9_leastSet_41 : decode cX9_leastSet 41 = .ok (.if_icmp .ge 32, 3) := by decide +kernel
theorem dX9_leastSet_44 : decode cX9_leastSet 44 = .ok (.iload 7, 2) := by decide +kernel
theorem dX9_leastSet_46 : decode cX9_leastSet 46 = .ok (.bipush 9, 2) := by decide +kernel
theorem dX9_leastSet_48 : decode cX9_leastSet 48 = .ok (.if_icmp .ge 25, 3) := by decide +kernel
theorem dX9_leastSet_51 : decode cX9_leastSet 51 = .ok (.aload_n 0, 1) := by decide +kernel
theorem dX9_leastSet_52 : decode cX9_leastSet 52 = .ok (.getfield 9, 3) := by decide +kernel
theorem dX9_leastSet_55 : decode cX9_leastSet 55 = .ok (.iconst 1, 1) := by decide +kernel
theorem dX9_leastSet_56 : decode cX9_leastSet 56 = .ok (.iload 7, 2) := by decide +kernel
theorem dX9_leastSet_58 : decode cX9_leastSet 58 = .ok (.ishl, 1) := by decide +kernel
theorem dX9_leastSet_59 : decode cX9_leastSet 59 = .ok (.aload_n 1, 1) := by decide +kernel
theorem dX9_leastSet_60 : decode cX9_leastSet 60 = .ok (.iload 7, 2) := by decide +kernel
theorem dX9_leastSet_62 : decode cX9_leastSet 62 = .ok (.iload_n 3, 1) := by decide +kernel
theorem dX9_leastSet_63 : decode cX9_leastSet 63 = .ok (.invokestatic 19, 3) := by decide +kernel
theorem dX9_leastSet_66 : decode cX9_leastSet 66 = .ok (.lastore, 1) := by decide +kernel
theorem dX9_leastSet_67 : decode cX9_leastSet 67 = .ok (.iinc 7 1, 3) := by decide +kernel
theorem dX9_leastSet_70 : decode cX9_leastSet 70 = .ok (.goto (-35), 3) := by decide +kernel
theorem dX9_leastSet_73 : decode cX9_leastSet 73 = .ok (.iconst 1, 1) := by decide +kernel
theorem dX9_leastSet_74 : decode cX9_leastSet 74 = .ok (.istore 7, 2) := by decide +kernel
theorem dX9_leastSet_76 : decode cX9_leastSet 76 = .ok (.iload 7, 2) := by decide +kernel
theorem dX9_leastSet_78 : decode cX9_leastSet 78 = .ok (.iload 6, 2) := by decide +kernel
theorem dX9_leastSet_80 : decode cX9_leastSet 80 = .ok (.if_icmp .ge 87, 3) := by decide +kernel
theorem dX9_leastSet_83 : decode cX9_leastSet 83 = .ok (.iload 7, 2) := by decide +kernel
theorem dX9_leastSet_85 : decode cX9_leastSet 85 = .ok (.aload_n 0, 1) := by decide +kernel
theorem dX9_leastSet_86 : decode cX9_leastSet 86 = .ok (.getfield 9, 3) := by decide +kernel
theorem dX9_leastSet_89 : decode cX9_leastSet 89 = .ok (.arraylength, 1) := by decide +kernel
theorem dX9_leastSet_90 : decode cX9_leastSet 90 = .ok (.if_icmp .ge 77, 3) := by decide +kernel
theorem dX9_leastSet_93 : decode cX9_leastSet 93 = .ok (.iload 7, 2) := by decide +kernel
theorem dX9_leastSet_95 : decode cX9_leastSet 95 = .ok (.iload 7, 2) := by decide +kernel
theorem dX9_leastSet_97 : decode cX9_leastSet 97 = .ok (.iconst 1, 1) := by decide +kernel
theorem dX9_leastSet_98 : decode cX9_leastSet 98 = .ok (.isub, 1) := by decide +kernel
theorem dX9_leastSet_99 : decode cX9_leastSet 99 = .ok (.iand, 1) := by decide +kernel
theorem dX9_leastSet_100 : decode cX9_leastSet 100 = .ok (.istore 8, 2) := by decide +kernel
theorem dX9_leastSet_102 : decode cX9_leastSet 102 = .ok (.aload_n 0, 1) := by decide +kernel
theorem dX9_leastSet_103 : decode cX9_leastSet 103 = .ok (.getfield 9, 3) := by decide +kernel
theorem dX9_leastSet_106 : decode cX9_leastSet 106 = .ok (.iload 7, 2) := by decide +kernel
theorem dX9_leastSet_108 : decode cX9_leastSet 108 = .ok (.aload_n 0, 1) := by decide +kernel
theorem dX9_leastSet_109 : decode cX9_leastSet 109 = .ok (.getfield 9, 3) := by decide +kernel
theorem dX9_leastSet_112 : decode cX9_leastSet 112 = .ok (.iload 8, 2) := by decide +kernel
theorem dX9_leastSet_114 : decode cX9_leastSet 114 = .ok (.laload, 1) := by decide +kernel
theorem dX9_leastSet_115 : decode cX9_leastSet 115 = .ok (.aload_n 0, 1) := by decide +kernel
theorem dX9_leastSet_116 : decode cX9_leastSet 116 = .ok (.getfield 9, 3) := by decide +kernel
theorem dX9_leastSet_119 : decode cX9_leastSet 119 = .ok (.iload 7, 2) := by decide +kernel
theorem dX9_leastSet_121 : decode cX9_leastSet 121 = .ok (.iload 8, 2) := by decide +kernel
theorem dX9_leastSet_123 : decode cX9_leastSet 123 = .ok (.isub, 1) := by decide +kernel
theorem dX9_leastSet_124 : decode cX9_leastSet 124 = .ok (.laload, 1) := by decide +kernel
theorem dX9_leastSet_125 : decode cX9_leastSet 125 = .ok (.lor, 1) := by decide +kernel
theorem dX9_leastSet_126 : decode cX9_leastSet 126 = .ok (.lastore, 1) := by decide +kernel
theorem dX9_leastSet_127 : decode cX9_leastSet 127 = .ok (.aload_n 0, 1) := by decide +kernel
theorem dX9_leastSet_128 : decode cX9_leastSet 128 = .ok (.getfield 9, 3) := by decide +kernel
theorem dX9_leastSet_131 : decode cX9_leastSet 131 = .ok (.iload 7, 2) := by decide +kernel
theorem dX9_leastSet_133 : decode cX9_leastSet 133 = .ok (.laload, 1) := by decide +kernel
theorem dX9_leastSet_134 : decode cX9_leastSet 134 = .ok (.lload 4, 2) := by decide +kernel
theorem dX9_leastSet_136 : decode cX9_leastSet 136 = .ok (.lcmp, 1) := by decide +kernel
theorem dX9_leastSet_137 : decode cX9_leastSet 137 = .ok (.ifCond .ne 24, 3) := by decide +kernel
theorem dX9_leastSet_140 : decode cX9_leastSet 140 = .ok (.iload 7, 2) := by decide +kernel
theorem dX9_leastSet_142 : decode cX9_leastSet 142 = .ok (.invokestatic 38, 3) := by decide +kernel
theorem dX9_leastSet_145 : decode cX9_leastSet 145 = .ok (.iload_n 2, 1) := by decide +kernel
theorem dX9_leastSet_146 : decode cX9_leastSet 146 = .ok (.if_icmp .gt 15, 3) := by decide +kernel
theorem dX9_leastSet_149 : decode cX9_leastSet 149 = .ok (.aload_n 1, 1) := by decide +kernel
theorem dX9_leastSet_150 : decode cX9_leastSet 150 = .ok (.iload 7, 2) := by decide +kernel
theorem dX9_leastSet_152 : decode cX9_leastSet 152 = .ok (.invokestatic 44, 3) := by decide +kernel
theorem dX9_leastSet_155 : decode cX9_leastSet 155 = .ok (.ifCond .eq 6, 3) := by decide +kernel
theorem dX9_leastSet_158 : decode cX9_leastSet 158 = .ok (.iload 7, 2) := by decide +kernel
theorem dX9_leastSet_160 : decode cX9_leastSet 160 = .ok (.ireturn, 1) := by decide +kernel
theorem dX9_leastSet_161 : decode cX9_leastSet 161 = .ok (.iinc 7 1, 3) := by decide +kernel
theorem dX9_leastSet_164 : decode cX9_leastSet 164 = .ok (.goto (-88), 3) := by decide +kernel
theorem dX9_leastSet_167 : decode cX9_leastSet 167 = .ok (.iconst (-1), 1) := by decide +kernel
theorem dX9_leastSet_168 : decode cX9_leastSet 168 = .ok (.ireturn, 1) := by decide +kernel
theorem dX9_leastWorst_0 : decode cX9_leastWorst 0 = .ok (.iconst 1, 1) := by decide +kernel
theorem dX9_leastWorst_1 : decode cX9_leastWorst 1 = .ok (.istore_n 3, 1) := by decide +kernel
theorem dX9_leastWorst_2 : decode cX9_leastWorst 2 = .ok (.iload_n 3, 1) := by decide +kernel
theorem dX9_leastWorst_3 : decode cX9_leastWorst 3 = .ok (.bipush 11, 2) := by decide +kernel
theorem dX9_leastWorst_5 : decode cX9_leastWorst 5 = .ok (.if_icmp .gt 22, 3) := by decide +kernel
theorem dX9_leastWorst_8 : decode cX9_leastWorst 8 = .ok (.aload_n 0, 1) := by decide +kernel
theorem dX9_leastWorst_9 : decode cX9_leastWorst 9 = .ok (.aload_n 1, 1) := by decide +kernel
theorem dX9_leastWorst_10 : decode cX9_leastWorst 10 = .ok (.iload_n 2, 1) := by decide +kernel
theorem dX9_leastWorst_11 : decode cX9_leastWorst 11 = .ok (.iload_n 3, 1) := by decide +kernel
theorem dX9_leastWorst_12 : decode cX9_leastWorst 12 = .ok (.invokevirtual 15, 3) := by decide +kernel
theorem dX9_leastWorst_15 : decode cX9_leastWorst 15 = .ok (.iconst (-1), 1) := by decide +kernel
theorem dX9_leastWorst_16 : decode cX9_leastWorst 16 = .ok (.if_icmp .eq 5, 3) := by decide +kernel
theorem dX9_leastWorst_19 : decode cX9_leastWorst 19 = .ok (.iload_n 3, 1) := by decide +kernel
theorem dX9_leastWorst_20 : decode cX9_leastWorst 20 = .ok (.ireturn, 1) := by decide +kernel
theorem dX9_leastWorst_21 : decode cX9_leastWorst 21 = .ok (.iinc 3 1, 3) := by decide +kernel
theorem dX9_leastWorst_24 : decode cX9_leastWorst 24 = .ok (.goto (-22), 3) := by decide +kernel
theorem dX9_leastWorst_27 : decode cX9_leastWorst 27 = .ok (.iconst (-1), 1) := by decide +kernel
theorem dX9_leastWorst_28 : decode cX9_leastWorst 28 = .ok (.ireturn, 1) := by decide +kernel
theorem dX9_spotsWithin_0 : decode cX9_spotsWithin 0 = .ok (.lconst 0, 1) := by decide +kernel
theorem dX9_spotsWithin_1 : decode cX9_spotsWithin 1 = .ok (.lstore_n 3, 1) := by decide +kernel
theorem dX9_spotsWithin_2 : decode cX9_spotsWithin 2 = .ok (.iconst 0, 1) := by decide +kernel
theorem dX9_spotsWithin_3 : decode cX9_spotsWithin 3 = .ok (.istore 5, 2) := by decide +kernel
theorem dX9_spotsWithin_5 : decode cX9_spotsWithin 5 = .ok (.iload 5, 2) := by decide +kernel
theorem dX9_spotsWithin_7 : decode cX9_spotsWithin 7 = .ok (.aload_n 0, 1) := by decide +kernel
theorem dX9_spotsWithin_8 : decode cX9_spotsWithin 8 = .ok (.getfield 48, 3) := by decide +kernel
theorem dX9_spotsWithin_11 : decode cX9_spotsWithin 11 = .ok (.if_icmp .ge 60, 3) := by decide +kernel
theorem dX9_spotsWithin_14 : decode cX9_spotsWithin 14 = .ok (.iconst 0, 1) := by decide +kernel
theorem dX9_spotsWithin_15 : decode cX9_spotsWithin 15 = .ok (.istore 6, 2) := by decide +kernel
theorem dX9_spotsWithin_17 : decode cX9_spotsWithin 17 = .ok (.iload 6, 2) := by decide +kernel
theorem dX9_spotsWithin_19 : decode cX9_spotsWithin 19 = .ok (.aload_n 0, 1) := by decide +kernel
theorem dX9_spotsWithin_20 : decode cX9_spotsWithin 20 = .ok (.getfield 51, 3) := by decide +kernel
theorem dX9_spotsWithin_23 : decode cX9_spotsWithin 23 = .ok (.if_icmp .ge 42, 3) := by decide +kernel
theorem dX9_spotsWithin_26 : decode cX9_spotsWithin 26 = .ok (.iload 5, 2) := by decide +kernel
theorem dX9_spotsWithin_28 : decode cX9_spotsWithin 28 = .ok (.iload 6, 2) := by decide +kernel
theorem dX9_spotsWithin_30 : decode cX9_spotsWithin 30 = .ok (.invokestatic 54, 3) := by decide +kernel
theorem dX9_spotsWithin_33 : decode cX9_spotsWithin 33 = .ok (.istore 7, 2) := by decide +kernel
theorem dX9_spotsWithin_35 : decode cX9_spotsWithin 35 = .ok (.iload_n 1, 1) := by decide +kernel
theorem dX9_spotsWithin_36 : decode cX9_spotsWithin 36 = .ok (.iconst (-1), 1) := by decide +kernel
theorem dX9_spotsWithin_37 : decode cX9_spotsWithin 37 = .ok (.if_icmp .eq 14, 3) := by decide +kernel
theorem dX9_spotsWithin_40 : decode cX9_spotsWithin 40 = .ok (.aload_n 0, 1) := by decide +kernel
theorem dX9_spotsWithin_41 : decode cX9_spotsWithin 41 = .ok (.iload 7, 2) := by decide +kernel
theorem dX9_spotsWithin_43 : decode cX9_spotsWithin 43 = .ok (.iload_n 1, 1) := by decide +kernel
theorem dX9_spotsWithin_44 : decode cX9_spotsWithin 44 = .ok (.invokevirtual 57, 3) := by decide +kernel
theorem dX9_spotsWithin_47 : decode cX9_spotsWithin 47 = .ok (.iload_n 2, 1) := by decide +kernel
theorem dX9_spotsWithin_48 : decode cX9_spotsWithin 48 = .ok (.if_icmp .gt 11, 3) := by decide +kernel
theorem dX9_spotsWithin_51 : decode cX9_spotsWithin 51 = .ok (.lload_n 3, 1) := by decide +kernel
theorem dX9_spotsWithin_52 : decode cX9_spotsWithin 52 = .ok (.iload 7, 2) := by decide +kernel
theorem dX9_spotsWithin_54 : decode cX9_spotsWithin 54 = .ok (.invokestatic 60, 3) := by decide +kernel
theorem dX9_spotsWithin_57 : decode cX9_spotsWithin 57 = .ok (.lor, 1) := by decide +kernel
theorem dX9_spotsWithin_58 : decode cX9_spotsWithin 58 = .ok (.lstore_n 3, 1) := by decide +kernel
theorem dX9_spotsWithin_59 : decode cX9_spotsWithin 59 = .ok (.iinc 6 1, 3) := by decide +kernel
theorem dX9_spotsWithin_62 : decode cX9_spotsWithin 62 = .ok (.goto (-45), 3) := by decide +kernel
theorem dX9_spotsWithin_65 : decode cX9_spotsWithin 65 = .ok (.iinc 5 1, 3) := by decide +kernel
theorem dX9_spotsWithin_68 : decode cX9_spotsWithin 68 = .ok (.goto (-63), 3) := by decide +kernel
theorem dX9_spotsWithin_71 : decode cX9_spotsWithin 71 = .ok (.lload_n 3, 1) := by decide +kernel
theorem dX9_spotsWithin_72 : decode cX9_spotsWithin 72 = .ok (.lreturn, 1) := by decide +kernel
