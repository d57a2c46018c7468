theorem dX8_isBelow_0 : decode cX8_isBelow 0 = .ok (.iload_n 0, 1) := by decide +kernel
theorem dX8_isBelow_1 : decode cX8_isBelow 1 = .ok (.ifCond .lt 12, 3) := by decide +kernel
theorem dX8_isBelow_4 : decode cX8_isBelow 4 = .ok (.iload_n 0, 1) := by decide +kernel
theorem dX8_isBelow_5 : decode cX8_isBelow 5 = .ok (.iload_n 1, 1) := by decide +kernel
theorem dX8_isBelow_6 : decode cX8_isBelow 6 = .ok (.if_icmp .ge 7, 3) := by decide +kernel
theorem dX8_isBelow_9 : decode cX8_isBelow 9 = .ok (.iconst 1, 1) := by decide +kernel
theorem dX8_isBelow_10 : decode cX8_isBelow 10 = .ok (.goto 4, 3) := by decide +kernel
theorem dX8_isBelow_13 : decode cX8_isBelow 13 = .ok (.iconst 0, 1) := by decide +kernel
theorem dX8_isBelow_14 : decode cX8_isBelow 14 = .ok (.ireturn, 1) := by decide +kernel
theorem dX8_isUpTo_0 : decode cX8_isUpTo 0 = .ok (.iload_n 0, 1) := by decide +kernel
theorem dX8_isUpTo_1 : decode cX8_isUpTo 1 = .ok (.ifCond .lt 12, 3) := by decide +kernel
theorem dX8_isUpTo_4 : decode cX8_isUpTo 4 = .ok (.iload_n 0, 1) := by decide +kernel
theorem dX8_isUpTo_5 : decode cX8_isUpTo 5 = .ok (.iload_n 1, 1) := by decide +kernel
theorem dX8_isUpTo_6 : decode cX8_isUpTo 6 = .ok (.if_icmp .gt 7, 3) := by decide +kernel
theorem dX8_isUpTo_9 : decode cX8_isUpTo 9 = .ok (.iconst 1, 1) := by decide +kernel
theorem dX8_isUpTo_10 : decode cX8_isUpTo 10 = .ok (.goto 4, 3) := by decide +kernel
theorem dX8_isUpTo_13 : decode cX8_isUpTo 13 = .ok (.iconst 0, 1) := by decide +kernel
theorem dX8_isUpTo_14 : decode cX8_isUpTo 14 = .ok (.ireturn, 1) := by decide +kernel
theorem dX8_rowOf_0 : decode cX8_rowOf 0 = .ok (.iload_n 0, 1) := by decide +kernel
theorem dX8_rowOf_1 : decode cX8_rowOf 1 = .ok (.iconst 4, 1) := by decide +kernel
theorem dX8_rowOf_2 : decode cX8_rowOf 2 = .ok (.idiv, 1) := by decide +kernel
theorem dX8_rowOf_3 : decode cX8_rowOf 3 = .ok (.ireturn, 1) := by decide +kernel
theorem dX8_around_0 : decode cX8_around 0 = .ok (.iload_n 0, 1) := by decide +kernel
theorem dX8_around_1 : decode cX8_around 1 = .ok (.iconst 4, 1) := by decide +kernel
theorem dX8_around_2 : decode cX8_around 2 = .ok (.ishl, 1) := by decide +kernel
theorem dX8_around_3 : decode cX8_around 3 = .ok (.iload_n 0, 1) := by decide +kernel
theorem dX8_around_4 : decode cX8_around 4 = .ok (.iconst 4, 1) := by decide +kernel
theorem dX8_around_5 : decode cX8_around 5 = .ok (.iushr, 1) := by decide +kernel
theorem dX8_around_6 : decode cX8_around 6 = .ok (.ior, 1) := by decide +kernel
theorem dX8_around_7 : decode cX8_around 7 = .ok (.iload_n 0, 1) := by decide +kernel
theorem dX8_around_8 : decode cX8_around 8 = .ok (.ldc_w 318, 3) := by decide +kernel
theorem dX8_around_11 : decode cX8_around 11 = .ok (.iand, 1) := by decide +kernel
theorem dX8_around_12 : decode cX8_around 12 = .ok (.iconst 1, 1) := by decide +kernel
theorem dX8_around_13 : decode cX8_around 13 = .ok (.ishl, 1) := by decide +kernel
theorem dX8_around_14 : decode cX8_around 14 = .ok (.ior, 1) := by decide +kernel
theorem dX8_around_15 : decode cX8_around 15 = .ok (.iload_n 0, 1) := by decide +kernel
theorem dX8_around_16 : decode cX8_around 16 = .ok (.sipush (-4370), 3) := by decide +kernel
theorem dX8_around_19 : decode cX8_around 19 = .ok (.iand, 1) := by decide +kernel
theorem dX8_around_20 : decode cX8_around 20 = .ok (.iconst 1, 1) := by decide +kernel
theorem dX8_around_21 : decode cX8_around 21 = .ok (.iushr, 1) := by decide +kernel
theorem dX8_around_22 : decode cX8_around 22 = .ok (.ior, 1) := by decide +kernel
theorem dX8_around_23 : decode cX8_around 23 = .ok (.istore_n 2, 1) := by decide +kernel
theorem dX8_around_24 : decode cX8_around 24 = .ok (.iload_n 1, 1) := by decide +kernel
theorem dX8_around_25 : decode cX8_around 25 = .ok (.ifCond .eq 31, 3) := by decide +kernel
theorem dX8_around_28 : decode cX8_around 28 = .ok (.iload_n 2, 1) := by decide +kernel
theorem dX8_around_29 : decode cX8_around 29 = .ok (.iload_n 0, 1) := by decide +kernel
theorem dX8_around_30 : decode cX8_around 30 = .ok (.bipush 8, 2) := by decide +kernel
theorem dX8_around_32 : decode cX8_around 32 = .ok (.ishl, 1) := by decide +kernel
theorem dX8_around_33 : decode cX8_around 33 = .ok (.iload_n 0, 1) := by decide +kernel
theorem dX8_around_34 : decode cX8_around 34 = .ok (.bipush 8, 2) := by decide +kernel
theorem dX8_around_36 : decode cX8_around 36 = .ok (.iushr, 1) := by decide +kernel
theorem dX8_around_37 : decode cX8_around 37 = .ok (.ior, 1) := by decide +kernel
theorem dX8_around_38 : decode cX8_around 38 = .ok (.iload_n 0, 1) := by decide +kernel
theorem dX8_around_39 : decode cX8_around 39 = .ok (.sipush 13107, 3) := by decide +kernel
theorem dX8_around_42 : decode cX8_around 42 = .ok (.iand, 1) := by decide +kernel
theorem dX8_around_43 : decode cX8_around 43 = .ok (.iconst 2, 1) := by decide +kernel
theorem dX8_around_44 : decode cX8_around 44 = .ok (.ishl, 1) := by decide +kernel
theorem dX8_around_45 : decode cX8_around 45 = .ok (.ior, 1) := by decide +kernel
theorem dX8_around_46 : decode cX8_around 46 = .ok (.iload_n 0, 1) := by decide +kernel
theorem dX8_around_47 : decode cX8_around 47 = .ok (.ldc_w 319, 3) := by decide +kernel
theorem dX8_around_50 : decode cX8_around 50 = .ok (.iand, 1) := by decide +kernel
theorem dX8_around_51 : decode cX8_around 51 = .ok (.iconst 2, 1) := by decide +kernel
theorem dX8_around_52 : decode cX8_around 52 = .ok (.iushr, 1) := by decide +kernel
theorem dX8_around_53 : decode cX8_around 53 = .ok (.ior, 1) := by decide +kernel
theorem dX8_around_54 : decode cX8_around 54 = .ok (.ior, 1) := by decide +kernel
theorem dX8_around_55 : decode cX8_around 55 = .ok (.istore_n 2, 1) := by decide +kernel
theorem dX8_around_56 : decode cX8_around 56 = .ok (.iload_n 2, 1) := by decide +kernel
theorem dX8_around_57 : decode cX8_around 57 = .ok (.ldc 220, 2) := by decide +kernel
theorem dX8_around_59 : decode cX8_around 59 = .ok (.iand, 1) := by decide +kernel
theorem dX8_around_60 : decode cX8_around 60 = .ok (.ireturn, 1) := by decide +kernel
theorem dX8_fewest_0 : decode cX8_fewest 0 = .ok (.iload_n 0, 1) := by decide +kernel
theorem dX8_fewest_1 : decode cX8_fewest 1 = .ok (.iload_n 2, 1) := by decide +kernel
theorem dX8_fewest_2 : decode cX8_fewest 2 = .ok (.iand, 1) := by decide +kernel
theorem dX8_fewest_3 : decode cX8_fewest 3 = .ok (.istore 4, 2) := by decide +kernel
theorem dX8_fewest_5 : decode cX8_fewest 5 = .ok (.iload 4, 2) := by decide +kernel
theorem dX8_fewest_7 : decode cX8_fewest 7 = .ok (.istore 5, 2) := by decide +kernel
theorem dX8_fewest_9 : decode cX8_fewest 9 = .ok (.iconst 0, 1) := by decide +kernel
theorem dX8_fewest_10 : decode cX8_fewest 10 = .ok (.istore 6, 2) := by decide +kernel
theorem dX8_fewest_12 : decode cX8_fewest 12 = .ok (.iload 6, 2) := by decide +kernel
theorem dX8_fewest_14 : decode cX8_fewest 14 = .ok (.bipush 16, 2) := by decide +kernel
theorem dX8_fewest_16 : decode cX8_fewest 16 = .ok (.if_icmp .ge 46, 3) := by decide +kernel
theorem dX8_fewest_19 : decode cX8_fewest 19 = .ok (.iload 5, 2) := by decide +kernel
theorem dX8_fewest_21 : decode cX8_fewest 21 = .ok (.ifCond .eq 41, 3) := by decide +kernel
theorem dX8_fewest_24 : decode cX8_fewest 24 = .ok (.iload 5, 2) := by decide +kernel
theorem dX8_fewest_26 : decode cX8_fewest 26 = .ok (.iload_n 1, 1) := by decide +kernel
theorem dX8_fewest_27 : decode cX8_fewest 27 = .ok (.iand, 1) := by decide +kernel
theorem dX8_fewest_28 : decode cX8_fewest 28 = .ok (.ifCond .eq 6, 3) := by decide +kernel
theorem dX8_fewest_31 : decode cX8_fewest 31 = .ok (.iload 6, 2) := by decide +kernel
theorem dX8_fewest_33 : decode cX8_fewest 33 = .ok (.ireturn, 1) := by decide +kernel
theorem dX8_fewest_34 : decode cX8_fewest 34 = .ok (.iload 5, 2) := by decide +kernel
theorem dX8_fewest_36 : decode cX8_fewest 36 = .ok (.iload_n 3, 1) := by decide +kernel
theorem dX8_fewest_37 : decode cX8_fewest 37 = .ok (.invokestatic 138, 3) := by decide +kernel
theorem dX8_fewest_40 : decode cX8_fewest 40 = .ok (.iload_n 2, 1) := by decide +kernel
theorem dX8_fewest_41 : decode cX8_fewest 41 = .ok (.iand, 1) := by decide +kernel
theorem dX8_fewest_42 : decode cX8_fewest 42 = .ok (.iload 4, 2) := by decide +kernel
theorem dX8_fewest_44 : decode cX8_fewest 44 = .ok (.iconst (-1), 1) := by decide +kernel
theorem dX8_fewest_45 : decode cX8_fewest 45 = .ok (.ixor, 1) := by decide +kernel
theorem dX8_fewest_46 : decode cX8_fewest 46 = .ok (.iand, 1) := by decide +kernel
theorem dX8_fewest_47 : decode cX8_fewest 47 = .ok (.istore 5, 2) := by decide +kernel
theorem dX8_fewest_49 : decode cX8_fewest 49 = .ok (.iload 4, 2) := by decide +kernel
theorem dX8_fewest_51 : decode cX8_fewest 51 = .ok (.iload 5, 2) := by decide +kernel
theorem dX8_fewest_53 : decode cX8_fewest 53 = .ok (.ior, 1) := by decide +kernel
theorem dX8_fewest_54 : decode cX8_fewest 54 = .ok (.istore 4, 2) := by decide +kernel
theorem dX8_fewest_56 : decode cX8_fewest 56 = .ok (.iinc 6 1, 3) := by decide +kernel
theorem dX8_fewest_59 : decode cX8_fewest 59 = .ok (.goto (-47), 3) := by decide +kernel
theorem dX8_fewest_62 : decode cX8_fewest 62 = .ok (.bipush (-5), 2) := by decide +kernel
theorem dX8_fewest_64 : decode cX8_fewest 64 = .ok (.ireturn, 1) := by decide +kernel
theorem dX8_firstAt_0 : decode cX8_firstAt 0 = .ok (.iconst 0, 1) := by decide +kernel
theorem dX8_firstAt_1 : decode cX8_firstAt 1 = .ok (.istore 4, 2) := by decide +kernel
theorem dX8_firstAt_3 : decode cX8_firstAt 3 = .ok (.iload 4, 2) := by decide +kernel
theorem dX8_firstAt_5 : decode cX8_firstAt 5 = .ok (.bipush 16, 2) := by decide +kernel
theorem dX8_firstAt_7 : decode cX8_firstAt 7 = .ok (.if_icmp .ge 36, 3) := by decide +kernel
theorem dX8_firstAt_10 : decode cX8_firstAt 10 = .ok (.iload_n 0, 1) := by decide +kernel
theorem dX8_firstAt_11 : decode cX8_firstAt 11 = .ok (.iconst 1, 1) := by decide +kernel
theorem dX8_firstAt_12 : decode cX8_firstAt 12 = .ok (.iload 4, 2) := by decide +kernel
theorem dX8_firstAt_14 : decode cX8_firstAt 14 = .ok (.ishl, 1) := by decide +kernel
theorem dX8_firstAt_15 : decode cX8_firstAt 15 = .ok (.iand, 1) := by decide +kernel
theorem dX8_firstAt_16 : decode cX8_firstAt 16 = .ok (.ifCond .eq 21, 3) := by decide +kernel
theorem dX8_firstAt_19 : decode cX8_firstAt 19 = .ok (.iconst 1, 1) := by decide +kernel
theorem dX8_firstAt_20 : decode cX8_firstAt 20 = .ok (.iload 4, 2) := by decide +kernel
theorem dX8_firstAt_22 : decode cX8_firstAt 22 = .ok (.ishl, 1) := by decide +kernel
theorem dX8_firstAt_23 : decode cX8_firstAt 23 = .ok (.ldc 196, 2) := by decide +kernel
theorem dX8_firstAt_25 : decode cX8_firstAt 25 = .ok (.iload_n 2, 1) := by decide +kernel
theorem dX8_firstAt_26 : decode cX8_firstAt 26 = .ok (.iload_n 3, 1) := by decide +kernel
theorem dX8_firstAt_27 : decode cX8_firstAt 27 = .ok (.invokestatic 201, 3) := by decide +kernel
theorem dX8_firstAt_30 : decode cX8_firstAt 30 = .ok (.iload_n 1, 1) := by decide +kernel
theorem dX8_firstAt_31 : decode cX8_firstAt 31 = .ok (.if_icmp .ne 6, 3) := by decide +kernel
theorem dX8_firstAt_34 : decode cX8_firstAt 34 = .ok (.iload 4, 2) := by decide +kernel
theorem dX8_firstAt_36 : decode cX8_firstAt 36 = .ok (.ireturn, 1) := by decide +kernel
theorem dX8_firstAt_37 : decode cX8_firstAt 37 = .ok (.iinc 4 1, 3) := by decide +kernel
theorem dX8_firstAt_40 : decode cX8_firstAt 40 = .ok (.goto (-37), 3) := by decide +kernel
theorem dX8_firstAt_43 : decode cX8_firstAt 43 = .ok (.bipush (-5), 2) := by decide +kernel
theorem dX8_firstAt_45 : decode cX8_firstAt 45 = .ok (.ireturn, 1) := by decide +kernel
theorem dX8_leastCut_0 : decode cX8_leastCut 0 = .ok (.sipush 4369, 3) := by decide +kernel
theorem dX8_leastCut_3 : decode cX8_leastCut 3 = .ok (.ldc 196, 2) := by decide +kernel
theorem dX8_leastCut_5 : decode cX8_leastCut 5 = .ok (.iload_n 0, 1) := by decide +kernel
theorem dX8_leastCut_6 : decode cX8_leastCut 6 = .ok (.iload_n 1, 1) := by decide +kernel
theorem dX8_leastCut_7 : decode cX8_leastCut 7 = .ok (.invokestatic 201, 3) := by decide +kernel
theorem dX8_leastCut_10 : decode cX8_leastCut 10 = .ok (.ifCond .ge 5, 3) := by decide +kernel
theorem dX8_leastCut_13 : decode cX8_leastCut 13 = .ok (.iconst 0, 1) := by decide +kernel
theorem dX8_leastCut_14 : decode cX8_leastCut 14 = .ok (.ireturn, 1) := by decide +kernel
theorem dX8_leastCut_15 : decode cX8_leastCut 15 = .ok (.bipush (-5), 2) := by decide +kernel
theorem dX8_leastCut_17 : decode cX8_leastCut 17 = .ok (.istore_n 2, 1) := by decide +kernel
theorem dX8_leastCut_18 : decode cX8_leastCut 18 = .ok (.iconst 0, 1) := by decide +kernel
theorem dX8_leastCut_19 : decode cX8_leastCut 19 = .ok (.istore_n 3, 1) := by decide +kernel
theorem dX8_leastCut_20 : decode cX8_leastCut 20 = .ok (.iload_n 3, 1) := by decide +kernel
theorem dX8_leastCut_21 : decode cX8_leastCut 21 = .ok (.bipush 16, 2) := by decide +kernel
theorem dX8_leastCut_23 : decode cX8_leastCut 23 = .ok (.if_icmp .ge 85, 3) := by decide +kernel
theorem dX8_leastCut_26 : decode cX8_leastCut 26 = .ok (.iconst 0, 1) := by decide +kernel
theorem dX8_leastCut_27 : decode cX8_leastCut 27 = .ok (.istore 4, 2) := by decide +kernel
theorem dX8_leastCut_29 : decode cX8_leastCut 29 = .ok (.iload 4, 2) := by decide +kernel
theorem dX8_leastCut_31 : decode cX8_leastCut 31 = .ok (.iload_n 3, 1) := by decide +kernel
theorem dX8_leastCut_32 : decode cX8_leastCut 32 = .ok (.if_icmp .gt 70, 3) := by decide +kernel
theorem dX8_leastCut_35 : decode cX8_leastCut 35 = .ok (.iconst 0, 1) := by decide +kernel
theorem dX8_leastCut_36 : decode cX8_leastCut 36 = .ok (.istore 5, 2) := by decide +kernel
theorem dX8_leastCut_38 : decode cX8_leastCut 38 = .ok (.iload 5, 2) := by decide +kernel
theorem dX8_leastCut_40 : decode cX8_leastCut 40 = .ok (.iload 4, 2) := by decide +kernel
theorem dX8_leastCut_42 : decode cX8_leastCut 42 = .ok (.if_icmp .gt 54, 3) := by decide +kernel
theorem dX8_leastCut_45 : decode cX8_leastCut 45 = .ok (.iconst 1, 1) := by decide +kernel
theorem dX8_leastCut_46 : decode cX8_leastCut 46 = .ok (.iload_n 3, 1) := by decide +kernel
theorem dX8_leastCut_47 : decode cX8_leastCut 47 = .ok (.ishl, 1) := by decide +kernel
theorem dX8_leastCut_48 : decode cX8_leastCut 48 = .ok (.iconst 1, 1) := by decide +kernel
theorem dX8_leastCut_49 : decode cX8_leastCut 49 = .ok (.iload 4, 2) := by decide +kernel
theorem dX8_leastCut_51 : decode cX8_leastCut 51 = .ok (.ishl, 1) := by decide +kernel
theorem dX8_leastCut_52 : decode cX8_leastCut 52 = .ok (.ior, 1) := by decide +kernel
theorem dX8_leastCut_53 : decode cX8_leastCut 53 = .ok (.iconst 1, 1) := by decide +kernel
theorem dX8_leastCut_54 : decode cX8_leastCut 54 = .ok (.iload 5, 2) := by decide +kernel
theorem dX8_leastCut_56 : decode cX8_leastCut 56 = .ok (.ishl, 1) := by decide +kernel
theorem dX8_leastCut_57 : decode cX8_leastCut 57 = .ok (.ior, 1) := by decide +kernel
theorem dX8_leastCut_58 : decode cX8_leastCut 58 = .ok (.istore 6, 2) := by decide +kernel
theorem dX8_leastCut_60 : decode cX8_leastCut 60 = .ok (.iload 6, 2) := by decide +kernel
theorem dX8_leastCut_62 : decode cX8_leastCut 62 = .ok (.iload_n 2, 1) := by decide +kernel
theorem dX8_leastCut_63 : decode cX8_leastCut 63 = .ok (.invokestatic 320, 3) := by decide +kernel
theorem dX8_leastCut_66 : decode cX8_leastCut 66 = .ok (.ifCond .eq 24, 3) := by decide +kernel
theorem dX8_leastCut_69 : decode cX8_leastCut 69 = .ok (.sipush 4369, 3) := by decide +kernel
theorem dX8_leastCut_72 : decode cX8_leastCut 72 = .ok (.ldc 196, 2) := by decide +kernel
theorem dX8_leastCut_74 : decode cX8_leastCut 74 = .ok (.iload_n 0, 1) := by decide +kernel
theorem dX8_leastCut_75 : decode cX8_leastCut 75 = .ok (.iload 6, 2) := by decide +kernel
theorem dX8_leastCut_77 : decode cX8_leastCut 77 = .ok (.iconst (-1), 1) := by decide +kernel
theorem dX8_leastCut_78 : decode cX8_leastCut 78 = .ok (.ixor, 1) := by decide +kernel
theorem dX8_leastCut_79 : decode cX8_leastCut 79 = .ok (.iand, 1) := by decide +kernel
theorem dX8_leastCut_80 : decode cX8_leastCut 80 = .ok (.iload_n 1, 1) := by decide +kernel
theorem dX8_leastCut_81 : decode cX8_leastCut 81 = .ok (.invokestatic 201, 3) := by decide +kernel
theorem dX8_leastCut_84 : decode cX8_leastCut 84 = .ok (.ifCond .ge 6, 3) := by decide +kernel
theorem dX8_leastCut_87 : decode cX8_leastCut 87 = .ok (.iload 6, 2) := by decide +kernel
theorem dX8_leastCut_89 : decode cX8_leastCut 89 = .ok (.istore_n 2, 1) := by decide +kernel
theorem dX8_leastCut_90 : decode cX8_leastCut 90 = .ok (.iinc 5 1, 3) := by decide +kernel
theorem dX8_leastCut_93 : decode cX8_leastCut 93 = .ok (.goto (-55), 3) := by decide +kernel
theorem dX8_leastCut_96 : decode cX8_leastCut 96 = .ok (.iinc 4 1, 3) := by decide +kernel
theorem dX8_leastCut_99 : decode cX8_leastCut 99 = .ok (.goto (-70), 3) := by decide +kernel
theorem dX8_leastCut_102 : decode cX8_leastCut 102 = .ok (.iinc 3 1, 3) := by decide +kernel
theorem dX8_leastCut_105 : decode cX8_leastCut 105 = .ok (.goto (-85), 3) := by decide +kernel
theorem dX8_leastCut_108 : decode cX8_leastCut 108 = .ok (.iload_n 2, 1) := by decide +kernel
theorem dX8_leastCut_109 : decode cX8_leastCut 109 = .ok (.ireturn, 1) := by decide +kernel
theorem dX8_isLess_0 : decode cX8_isLess 0 = .ok (.iload_n 1, 1) := by decide +kernel
theorem dX8_isLess_1 : decode cX8_isLess 1 = .ok (.ifCond .ge 5, 3) := by decide +kernel
theorem dX8_isLess_4 : decode cX8_isLess 4 = .ok (.iconst 1, 1) := by decide +kernel
theorem dX8_isLess_5 : decode cX8_isLess 5 = .ok (.ireturn, 1) := by decide +kernel
theorem dX8_isLess_6 : decode cX8_isLess 6 = .ok (.iload_n 0, 1) := by decide +kernel
theorem dX8_isLess_7 : decode cX8_isLess 7 = .ok (.invokestatic 215, 3) := by decide +kernel
theorem dX8_isLess_10 : decode cX8_isLess 10 = .ok (.iload_n 1, 1) := by decide +kernel
theorem dX8_isLess_11 : decode cX8_isLess 11 = .ok (.invokestatic 215, 3) := by decide +kernel
theorem dX8_isLess_14 : decode cX8_isLess 14 = .ok (.isub, 1) := by decide +kernel
theorem dX8_isLess_15 : decode cX8_isLess 15 = .ok (.istore_n 2, 1) := by decide +kernel
theorem dX8_isLess_16 : decode cX8_isLess 16 = .ok (.iload_n 2, 1) := by decide +kernel
theorem dX8_isLess_17 : decode cX8_isLess 17 = .ok (.ifCond .lt 12, 3) := by decide +kernel
theorem dX8_isLess_20 : decode cX8_isLess 20 = .ok (.iload_n 2, 1) := by decide +kernel
theorem dX8_isLess_21 : decode cX8_isLess 21 = .ok (.ifCond .ne 12, 3) := by decide +kernel
theorem dX8_isLess_24 : decode cX8_isLess 24 = .ok (.iload_n 0, 1) := by decide +kernel
theorem dX8_isLess_25 : decode cX8_isLess 25 = .ok (.iload_n 1, 1) := by decide +kernel
theorem dX8_isLess_26 : decode cX8_isLess 26 = .ok (.if_icmp .ge 7, 3) := by decide +kernel
theorem dX8_isLess_29 : decode cX8_isLess 29 = .ok (.iconst 1, 1) := by decide +kernel
theorem dX8_isLess_30 : decode cX8_isLess 30 = .ok (.goto 4, 3) := by decide +kernel
theorem dX8_isLess_33 : decode cX8_isLess 33 = .ok (.iconst 0, 1) := by decide +kernel
theorem dX8_isLess_34 : decode cX8_isLess 34 = .ok (.ireturn, 1) := by decide +kernel
theorem dX8_partOfSixteenths_0 : decode cX8_partOfSixteenths 0 = .ok (.bipush 16, 2) := by decide +kernel
theorem dX8_partOfSixteenths_2 : decode cX8_partOfSixteenths 2 = .ok (.istore_n 2, 1) := by decide +kernel
theorem dX8_partOfSixteenths_3 : decode cX8_partOfSixteenths 3 = .ok (.iconst 0, 1) := by decide +kernel
theorem dX8_partOfSixteenths_4 : decode cX8_partOfSixteenths 4 = .ok (.istore_n 3, 1) := by decide +kernel
theorem dX8_partOfSixteenths_5 : decode cX8_partOfSixteenths 5 = .ok (.iload_n 3, 1) := by decide +kernel
theorem dX8_partOfSixteenths_6 : decode cX8_partOfSixteenths 6 = .ok (.iconst 4, 1) := by decide +kernel
theorem dX8_partOfSixteenths_7 : decode cX8_partOfSixteenths 7 = .ok (.if_icmp .ge 28, 3) := by decide +kernel
theorem dX8_partOfSixteenths_10 : decode cX8_partOfSixteenths 10 = .ok (.iload_n 0, 1) := by decide +kernel
theorem dX8_partOfSixteenths_11 : decode cX8_partOfSixteenths 11 = .ok (.iconst 2, 1) := by decide +kernel
theorem dX8_partOfSixteenths_12 : decode cX8_partOfSixteenths 12 = .ok (.irem, 1) := by decide +kernel
theorem dX8_partOfSixteenths_13 : decode cX8_partOfSixteenths 13 = .ok (.ifCond .ne 22, 3) := by decide +kernel
theorem dX8_partOfSixteenths_16 : decode cX8_partOfSixteenths 16 = .ok (.iload_n 2, 1) := by decide +kernel
theorem dX8_partOfSixteenths_17 : decode cX8_partOfSixteenths 17 = .ok (.iconst 1, 1) := by decide +kernel
theorem dX8_partOfSixteenths_18 : decode cX8_partOfSixteenths 18 = .ok (.if_icmp .le 17, 3) := by decide +kernel
theorem dX8_partOfSixteenths_21 : decode cX8_partOfSixteenths 21 = .ok (.iload_n 0, 1) := by decide +kernel
theorem dX8_partOfSixteenths_22 : decode cX8_partOfSixteenths 22 = .ok (.iconst 2, 1) := by decide +kernel
theorem dX8_partOfSixteenths_23 : decode cX8_partOfSixteenths 23 = .ok (.idiv, 1) := by decide +kernel
theorem dX8_partOfSixteenths_24 : decode cX8_partOfSixteenths 24 = .ok (.istore_n 0, 1) := by decide +kernel
theorem dX8_partOfSixteenths_25 : decode cX8_partOfSixteenths 25 = .ok (.iload_n 2, 1) := by decide +kernel
theorem dX8_partOfSixteenths_26 : decode cX8_partOfSixteenths 26 = .ok (.iconst 2, 1) := by decide +kernel
theorem dX8_partOfSixteenths_27 : decode cX8_partOfSixteenths 27 = .ok (.idiv, 1) := by decide +kernel
theorem dX8_partOfSixteenths_28 : decode cX8_partOfSixteenths 28 = .ok (.istore_n 2, 1) := by decide +kernel
theorem dX8_partOfSixteenths_29 : decode cX8_partOfSixteenths 29 = .ok (.iinc 3 1, 3) := by decide +kernel
theorem dX8_partOfSixteenths_32 : decode cX8_partOfSixteenths 32 = .ok (.goto (-27), 3) := by decide +kernel
theorem dX8_partOfSixteenths_35 : decode cX8_partOfSixteenths 35 = .ok (.iload_n 1, 1) := by decide +kernel
theorem dX8_partOfSixteenths_36 : decode cX8_partOfSixteenths 36 = .ok (.ifCond .ne 8, 3) := by decide +kernel
theorem dX8_partOfSixteenths_39 : decode cX8_partOfSixteenths 39 = .ok (.iload_n 0, 1) := by decide +kernel
theorem dX8_partOfSixteenths_40 : decode cX8_partOfSixteenths 40 = .ok (.i2l, 1) := by decide +kernel
theorem dX8_partOfSixteenths_41 : decode cX8_partOfSixteenths 41 = .ok (.goto 5, 3) := by decide +kernel
theorem dX8_partOfSixteenths_44 : decode cX8_partOfSixteenths 44 = .ok (.iload_n 2, 1) := by decide +kernel
theorem dX8_partOfSixteenths_45 : decode cX8_partOfSixteenths 45 = .ok (.i2l, 1) := by decide +kernel
theorem dX8_partOfSixteenths_46 : decode cX8_partOfSixteenths 46 = .ok (.lreturn, 1) := by decide +kernel
theorem dJ6_bitCount_0f7a4_0 : decode cJ6_bitCount_0f7a4 0 = .ok (.iload_n 0, 1) := by decide +kernel
theorem dJ6_bitCount_0f7a4_1 : decode cJ6_bitCount_0f7a4 1 = .ok (.iload_n 0, 1) := by decide +kernel
theorem dJ6_bitCount_0f7a4_2 : decode cJ6_bitCount_0f7a4 2 = .ok (.iconst 1, 1) := by decide +kernel
theorem dJ6_bitCount_0f7a4_3 : decode cJ6_bitCount_0f7a4 3 = .ok (.iushr, 1) := by decide +kernel
theorem dJ6_bitCount_0f7a4_4 : decode cJ6_bitCount_0f7a4 4 = .ok (.ldc_w 265, 3) := by decide +kernel
theorem dJ6_bitCount_0f7a4_7 : decode cJ6_bitCount_0f7a4 7 = .ok (.iand, 1) := by decide +kernel
theorem dJ6_bitCount_0f7a4_8 : decode cJ6_bitCount_0f7a4 8 = .ok (.isub, 1) := by decide +kernel
theorem dJ6_bitCount_0f7a4_9 : decode cJ6_bitCount_0f7a4 9 = .ok (.istore_n 0, 1) := by decide +kernel
theorem dJ6_bitCount_0f7a4_10 : decode cJ6_bitCount_0f7a4 10 = .ok (.iload_n 0, 1) := by decide +kernel
theorem dJ6_bitCount_0f7a4_11 : decode cJ6_bitCount_0f7a4 11 = .ok (.ldc_w 266, 3) := by decide +kernel
theorem dJ6_bitCount_0f7a4_14 : decode cJ6_bitCount_0f7a4 14 = .ok (.iand, 1) := by decide +kernel
theorem dJ6_bitCount_0f7a4_15 : decode cJ6_bitCount_0f7a4 15 = .ok (.iload_n 0, 1) := by decide +kernel
theorem dJ6_bitCount_0f7a4_16 : decode cJ6_bitCount_0f7a4 16 = .ok (.iconst 2, 1) := by decide +kernel
theorem dJ6_bitCount_0f7a4_17 : decode cJ6_bitCount_0f7a4 17 = .ok (.iushr, 1) := by decide +kernel
theorem dJ6_bitCount_0f7a4_18 : decode cJ6_bitCount_0f7a4 18 = .ok (.ldc_w 266, 3) := by decide +kernel
theorem dJ6_bitCount_0f7a4_21 : decode cJ6_bitCount_0f7a4 21 = .ok (.iand, 1) := by decide +kernel
theorem dJ6_bitCount_0f7a4_22 : decode cJ6_bitCount_0f7a4 22 = .ok (.iadd, 1) := by decide +kernel
theorem dJ6_bitCount_0f7a4_23 : decode cJ6_bitCount_0f7a4 23 = .ok (.istore_n 0, 1) := by decide +kernel
theorem dJ6_bitCount_0f7a4_24 : decode cJ6_bitCount_0f7a4 24 = .ok (.iload_n 0, 1) := by decide +kernel
theorem dJ6_bitCount_0f7a4_25 : decode cJ6_bitCount_0f7a4 25 = .ok (.iload_n 0, 1) := by decide +kernel
theorem dJ6_bitCount_0f7a4_26 : decode cJ6_bitCount_0f7a4 26 = .ok (.iconst 4, 1) := by decide +kernel
theorem dJ6_bitCount_0f7a4_27 : decode cJ6_bitCount_0f7a4 27 = .ok (.iushr, 1) := by decide +kernel
theorem dJ6_bitCount_0f7a4_28 : decode cJ6_bitCount_0f7a4 28 = .ok (.iadd, 1) := by decide +kernel
theorem dJ6_bitCount_0f7a4_29 : decode cJ6_bitCount_0f7a4 29 = .ok (.ldc_w 267, 3) := by decide +kernel
theorem dJ6_bitCount_0f7a4_32 : decode cJ6_bitCount_0f7a4 32 = .ok (.iand, 1) := by decide +kernel
theorem dJ6_bitCount_0f7a4_33 : decode cJ6_bitCount_0f7a4 33 = .ok (.istore_n 0, 1) := by decide +kernel
theorem dJ6_bitCount_0f7a4_34 : decode cJ6_bitCount_0f7a4 34 = .ok (.iload_n 0, 1) := by decide +kernel
theorem dJ6_bitCount_0f7a4_35 : decode cJ6_bitCount_0f7a4 35 = .ok (.iload_n 0, 1) := by decide +kernel
theorem dJ6_bitCount_0f7a4_36 : decode cJ6_bitCount_0f7a4 36 = .ok (.bipush 8, 2) := by decide +kernel
theorem dJ6_bitCount_0f7a4_38 : decode cJ6_bitCount_0f7a4 38 = .ok (.iushr, 1) := by decide +kernel
theorem dJ6_bitCount_0f7a4_39 : decode cJ6_bitCount_0f7a4 39 = .ok (.iadd, 1) := by decide +kernel
theorem dJ6_bitCount_0f7a4_40 : decode cJ6_bitCount_0f7a4 40 = .ok (.istore_n 0, 1) := by decide +kernel
theorem dJ6_bitCount_0f7a4_41 : decode cJ6_bitCount_0f7a4 41 = .ok (.iload_n 0, 1) := by decide +kernel
theorem dJ6_bitCount_0f7a4_42 : decode cJ6_bitCount_0f7a4 42 = .ok (.iload_n 0, 1) := by decide +kernel
theorem dJ6_bitCount_0f7a4_43 : decode cJ6_bitCount_0f7a4 43 = .ok (.bipush 16, 2) := by decide +kernel
theorem dJ6_bitCount_0f7a4_45 : decode cJ6_bitCount_0f7a4 45 = .ok (.iushr, 1) := by decide +kernel
theorem dJ6_bitCount_0f7a4_46 : decode cJ6_bitCount_0f7a4 46 = .ok (.iadd, 1) := by decide +kernel
theorem dJ6_bitCount_0f7a4_47 : decode cJ6_bitCount_0f7a4 47 = .ok (.istore_n 0, 1) := by decide +kernel
theorem dJ6_bitCount_0f7a4_48 : decode cJ6_bitCount_0f7a4 48 = .ok (.iload_n 0, 1) := by decide +kernel
theorem dJ6_bitCount_0f7a4_49 : decode cJ6_bitCount_0f7a4 49 = .ok (.bipush 63, 2) := by decide +kernel
theorem dJ6_bitCount_0f7a4_51 : decode cJ6_bitCount_0f7a4 51 = .ok (.iand, 1) := by decide +kernel
theorem dJ6_bitCount_0f7a4_52 : decode cJ6_bitCount_0f7a4 52 = .ok (.ireturn, 1) := by decide +kernel
