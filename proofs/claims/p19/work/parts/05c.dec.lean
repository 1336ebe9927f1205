theorem dX4_holdTo_47 : decode cX4_holdTo 47 = .ok (.aload_n 1, 1) := by decide +kernel
theorem dX4_holdTo_48 : decode cX4_holdTo 48 = .ok (.if_acmp .eq 26, 3) := by decide +kernel
theorem dX4_holdTo_51 : decode cX4_holdTo 51 = .ok (.aload 9, 2) := by decide +kernel
theorem dX4_holdTo_53 : decode cX4_holdTo 53 = .ok (.invokevirtual 76, 3) := by decide +kernel
theorem dX4_holdTo_56 : decode cX4_holdTo 56 = .ok (.ifCond .eq 18, 3) := by decide +kernel
theorem dX4_holdTo_59 : decode cX4_holdTo 59 = .ok (.aload 9, 2) := by decide +kernel
theorem dX4_holdTo_61 : decode cX4_holdTo 61 = .ok (.aload_n 1, 1) := by decide +kernel
theorem dX4_holdTo_62 : decode cX4_holdTo 62 = .ok (.lload_n 2, 1) := by decide +kernel
theorem dX4_holdTo_63 : decode cX4_holdTo 63 = .ok (.iload 4, 2) := by decide +kernel
theorem dX4_holdTo_65 : decode cX4_holdTo 65 = .ok (.invokestatic 259, 3) := by decide +kernel
theorem dX4_holdTo_68 : decode cX4_holdTo 68 = .ok (.ifCond .eq 6, 3) := by decide +kernel
theorem dX4_holdTo_71 : decode cX4_holdTo 71 = .ok (.iinc 5 1, 3) := by decide +kernel
theorem dX4_holdTo_74 : decode cX4_holdTo 74 = .ok (.iinc 8 1, 3) := by decide +kernel
theorem dX4_holdTo_77 : decode cX4_holdTo 77 = .ok (.goto (-46), 3) := by decide +kernel
theorem dX4_holdTo_80 : decode cX4_holdTo 80 = .ok (.iload 5, 2) := by decide +kernel
theorem dX4_holdTo_82 : decode cX4_holdTo 82 = .ok (.ireturn, 1) := by decide +kernel
theorem dX4_fit_0 : decode cX4_fit 0 = .ok (.lload_n 2, 1) := by decide +kernel
theorem dX4_fit_1 : decode cX4_fit 1 = .ok (.lconst 0, 1) := by decide +kernel
theorem dX4_fit_2 : decode cX4_fit 2 = .ok (.lcmp, 1) := by decide +kernel
theorem dX4_fit_3 : decode cX4_fit 3 = .ok (.ifCond .gt 5, 3) := by decide +kernel
theorem dX4_fit_6 : decode cX4_fit 6 = .ok (.iconst 0, 1) := by decide +kernel
theorem dX4_fit_7 : decode cX4_fit 7 = .ok (.ireturn, 1) := by decide +kernel
theorem dX4_fit_8 : decode cX4_fit 8 = .ok (.bipush (-3), 2) := by decide +kernel
theorem dX4_fit_10 : decode cX4_fit 10 = .ok (.istore 5, 2) := by decide +kernel
theorem dX4_fit_12 : decode cX4_fit 12 = .ok (.aload_n 0, 1) := by decide +kernel
theorem dX4_fit_13 : decode cX4_fit 13 = .ok (.aload_n 1, 1) := by decide +kernel
theorem dX4_fit_14 : decode cX4_fit 14 = .ok (.iload 4, 2) := by decide +kernel
theorem dX4_fit_16 : decode cX4_fit 16 = .ok (.iload 5, 2) := by decide +kernel
theorem dX4_fit_18 : decode cX4_fit 18 = .ok (.invokevirtual 128, 3) := by decide +kernel
theorem dX4_fit_21 : decode cX4_fit 21 = .ok (.lstore 6, 2) := by decide +kernel
theorem dX4_fit_23 : decode cX4_fit 23 = .ok (.iload 5, 2) := by decide +kernel
theorem dX4_fit_25 : decode cX4_fit 25 = .ok (.iconst 1, 1) := by decide +kernel
theorem dX4_fit_26 : decode cX4_fit 26 = .ok (.iadd, 1) := by decide +kernel
theorem dX4_fit_27 : decode cX4_fit 27 = .ok (.istore 8, 2) := by decide +kernel
theorem dX4_fit_29 : decode cX4_fit 29 = .ok (.iload 8, 2) := by decide +kernel
theorem dX4_fit_31 : decode cX4_fit 31 = .ok (.iconst 3, 1) := by decide +kernel
theorem dX4_fit_32 : decode cX4_fit 32 = .ok (.if_icmp .gt 36, 3) := by decide +kernel
theorem dX4_fit_35 : decode cX4_fit 35 = .ok (.aload_n 0, 1) := by decide +kernel
theorem dX4_fit_36 : decode cX4_fit 36 = .ok (.aload_n 1, 1) := by decide +kernel
theorem dX4_fit_37 : decode cX4_fit 37 = .ok (.iload 4, 2) := by decide +kernel
theorem dX4_fit_39 : decode cX4_fit 39 = .ok (.iload 8, 2) := by decide +kernel
theorem dX4_fit_41 : decode cX4_fit 41 = .ok (.invokevirtual 128, 3) := by decide +kernel
theorem dX4_fit_44 : decode cX4_fit 44 = .ok (.lstore 9, 2) := by decide +kernel
theorem dX4_fit_46 : decode cX4_fit 46 = .ok (.lload 9, 2) := by decide +kernel
theorem dX4_fit_48 : decode cX4_fit 48 = .ok (.lload 6, 2) := by decide +kernel
theorem dX4_fit_50 : decode cX4_fit 50 = .ok (.lcmp, 1) := by decide +kernel
theorem dX4_fit_51 : decode cX4_fit 51 = .ok (.ifCond .le 11, 3) := by decide +kernel
theorem dX4_fit_54 : decode cX4_fit 54 = .ok (.lload 9, 2) := by decide +kernel
theorem dX4_fit_56 : decode cX4_fit 56 = .ok (.lstore 6, 2) := by decide +kernel
theorem dX4_fit_58 : decode cX4_fit 58 = .ok (.iload 8, 2) := by decide +kernel
theorem dX4_fit_60 : decode cX4_fit 60 = .ok (.istore 5, 2) := by decide +kernel
theorem dX4_fit_62 : decode cX4_fit 62 = .ok (.iinc 8 1, 3) := by decide +kernel
theorem dX4_fit_65 : decode cX4_fit 65 = .ok (.goto (-36), 3) := by decide +kernel
theorem dX4_fit_68 : decode cX4_fit 68 = .ok (.ldc2_w 263, 3) := by decide +kernel
theorem dX4_fit_71 : decode cX4_fit 71 = .ok (.lload 6, 2) := by decide +kernel
theorem dX4_fit_73 : decode cX4_fit 73 = .ok (.lmul, 1) := by decide +kernel
theorem dX4_fit_74 : decode cX4_fit 74 = .ok (.lload_n 2, 1) := by decide +kernel
theorem dX4_fit_75 : decode cX4_fit 75 = .ok (.invokestatic 246, 3) := by decide +kernel
theorem dX4_fit_78 : decode cX4_fit 78 = .ok (.lstore 8, 2) := by decide +kernel
theorem dX4_fit_80 : decode cX4_fit 80 = .ok (.aload_n 0, 1) := by decide +kernel
theorem dX4_fit_81 : decode cX4_fit 81 = .ok (.ldc2_w 265, 3) := by decide +kernel
theorem dX4_fit_84 : decode cX4_fit 84 = .ok (.ldc2_w 267, 3) := by decide +kernel
theorem dX4_fit_87 : decode cX4_fit 87 = .ok (.lload 8, 2) := by decide +kernel
theorem dX4_fit_89 : decode cX4_fit 89 = .ok (.invokestatic 269, 3) := by decide +kernel
theorem dX4_fit_92 : decode cX4_fit 92 = .ok (.invokestatic 239, 3) := by decide +kernel
theorem dX4_fit_95 : decode cX4_fit 95 = .ok (.l2i, 1) := by decide +kernel
theorem dX4_fit_96 : decode cX4_fit 96 = .ok (.iload 5, 2) := by decide +kernel
theorem dX4_fit_98 : decode cX4_fit 98 = .ok (.invokevirtual 255, 3) := by decide +kernel
theorem dX4_fit_101 : decode cX4_fit 101 = .ok (.ireturn, 1) := by decide +kernel
theorem dJ9_floorDiv_7cf53_0 : decode cJ9_floorDiv_7cf53 0 = .ok (.iload_n 0, 1) := by decide +kernel
theorem dJ9_floorDiv_7cf53_1 : decode cJ9_floorDiv_7cf53 1 = .ok (.iload_n 1, 1) := by decide +kernel
theorem dJ9_floorDiv_7cf53_2 : decode cJ9_floorDiv_7cf53 2 = .ok (.idiv, 1) := by decide +kernel
theorem dJ9_floorDiv_7cf53_3 : decode cJ9_floorDiv_7cf53 3 = .ok (.istore_n 2, 1) := by decide +kernel
theorem dJ9_floorDiv_7cf53_4 : decode cJ9_floorDiv_7cf53 4 = .ok (.iload_n 0, 1) := by decide +kernel
theorem dJ9_floorDiv_7cf53_5 : decode cJ9_floorDiv_7cf53 5 = .ok (.iload_n 1, 1) := by decide +kernel
theorem dJ9_floorDiv_7cf53_6 : decode cJ9_floorDiv_7cf53 6 = .ok (.ixor, 1) := by decide +kernel
theorem dJ9_floorDiv_7cf53_7 : decode cJ9_floorDiv_7cf53 7 = .ok (.ifCond .ge 14, 3) := by decide +kernel
theorem dJ9_floorDiv_7cf53_10 : decode cJ9_floorDiv_7cf53 10 = .ok (.iload_n 2, 1) := by decide +kernel
theorem dJ9_floorDiv_7cf53_11 : decode cJ9_floorDiv_7cf53 11 = .ok (.iload_n 1, 1) := by decide +kernel
theorem dJ9_floorDiv_7cf53_12 : decode cJ9_floorDiv_7cf53 12 = .ok (.imul, 1) := by decide +kernel
theorem dJ9_floorDiv_7cf53_13 : decode cJ9_floorDiv_7cf53 13 = .ok (.iload_n 0, 1) := by decide +kernel
theorem dJ9_floorDiv_7cf53_14 : decode cJ9_floorDiv_7cf53 14 = .ok (.if_icmp .eq 7, 3) := by decide +kernel
theorem dJ9_floorDiv_7cf53_17 : decode cJ9_floorDiv_7cf53 17 = .ok (.iload_n 2, 1) := by decide +kernel
theorem dJ9_floorDiv_7cf53_18 : decode cJ9_floorDiv_7cf53 18 = .ok (.iconst 1, 1) := by decide +kernel
theorem dJ9_floorDiv_7cf53_19 : decode cJ9_floorDiv_7cf53 19 = .ok (.isub, 1) := by decide +kernel
theorem dJ9_floorDiv_7cf53_20 : decode cJ9_floorDiv_7cf53 20 = .ok (.ireturn, 1) := by decide +kernel
theorem dJ9_floorDiv_7cf53_21 : decode cJ9_floorDiv_7cf53 21 = .ok (.iload_n 2, 1) := by decide +kernel
theorem dJ9_floorDiv_7cf53_22 : decode cJ9_floorDiv_7cf53 22 = .ok (.ireturn, 1) := by decide +kernel
theorem dJ9_floorDiv_f86c9_0 : decode cJ9_floorDiv_f86c9 0 = .ok (.lload_n 0, 1) := by decide +kernel
theorem dJ9_floorDiv_f86c9_1 : decode cJ9_floorDiv_f86c9 1 = .ok (.lload_n 2, 1) := by decide +kernel
theorem dJ9_floorDiv_f86c9_2 : decode cJ9_floorDiv_f86c9 2 = .ok (.ldiv, 1) := by decide +kernel
theorem dJ9_floorDiv_f86c9_3 : decode cJ9_floorDiv_f86c9 3 = .ok (.lstore 4, 2) := by decide +kernel
theorem dJ9_floorDiv_f86c9_5 : decode cJ9_floorDiv_f86c9 5 = .ok (.lload_n 0, 1) := by decide +kernel
theorem dJ9_floorDiv_f86c9_6 : decode cJ9_floorDiv_f86c9 6 = .ok (.lload_n 2, 1) := by decide +kernel
theorem dJ9_floorDiv_f86c9_7 : decode cJ9_floorDiv_f86c9 7 = .ok (.lxor, 1) := by decide +kernel
theorem dJ9_floorDiv_f86c9_8 : decode cJ9_floorDiv_f86c9 8 = .ok (.lconst 0, 1) := by decide +kernel
theorem dJ9_floorDiv_f86c9_9 : decode cJ9_floorDiv_f86c9 9 = .ok (.lcmp, 1) := by decide +kernel
theorem dJ9_floorDiv_f86c9_10 : decode cJ9_floorDiv_f86c9 10 = .ok (.ifCond .ge 17, 3) := by decide +kernel
theorem dJ9_floorDiv_f86c9_13 : decode cJ9_floorDiv_f86c9 13 = .ok (.lload 4, 2) := by decide +kernel
theorem dJ9_floorDiv_f86c9_15 : decode cJ9_floorDiv_f86c9 15 = .ok (.lload_n 2, 1) := by decide +kernel
theorem dJ9_floorDiv_f86c9_16 : decode cJ9_floorDiv_f86c9 16 = .ok (.lmul, 1) := by decide +kernel
theorem dJ9_floorDiv_f86c9_17 : decode cJ9_floorDiv_f86c9 17 = .ok (.lload_n 0, 1) := by decide +kernel
theorem dJ9_floorDiv_f86c9_18 : decode cJ9_floorDiv_f86c9 18 = .ok (.lcmp, 1) := by decide +kernel
theorem dJ9_floorDiv_f86c9_19 : decode cJ9_floorDiv_f86c9 19 = .ok (.ifCond .eq 8, 3) := by decide +kernel
theorem dJ9_floorDiv_f86c9_22 : decode cJ9_floorDiv_f86c9 22 = .ok (.lload 4, 2) := by decide +kernel
theorem dJ9_floorDiv_f86c9_24 : decode cJ9_floorDiv_f86c9 24 = .ok (.lconst 1, 1) := by decide +kernel
theorem dJ9_floorDiv_f86c9_25 : decode cJ9_floorDiv_f86c9 25 = .ok (.lsub, 1) := by decide +kernel
theorem dJ9_floorDiv_f86c9_26 : decode cJ9_floorDiv_f86c9 26 = .ok (.lreturn, 1) := by decide +kernel
theorem dJ9_floorDiv_f86c9_27 : decode cJ9_floorDiv_f86c9 27 = .ok (.lload 4, 2) := by decide +kernel
theorem dJ9_floorDiv_f86c9_29 : decode cJ9_floorDiv_f86c9 29 = .ok (.lreturn, 1) := by decide +kernel
theorem dJ9_floorMod_7cf53_0 : decode cJ9_floorMod_7cf53 0 = .ok (.iload_n 0, 1) := by decide +kernel
theorem dJ9_floorMod_7cf53_1 : decode cJ9_floorMod_7cf53 1 = .ok (.iload_n 1, 1) := by decide +kernel
theorem dJ9_floorMod_7cf53_2 : decode cJ9_floorMod_7cf53 2 = .ok (.irem, 1) := by decide +kernel
theorem dJ9_floorMod_7cf53_3 : decode cJ9_floorMod_7cf53 3 = .ok (.istore_n 2, 1) := by decide +kernel
theorem dJ9_floorMod_7cf53_4 : decode cJ9_floorMod_7cf53 4 = .ok (.iload_n 0, 1) := by decide +kernel
theorem dJ9_floorMod_7cf53_5 : decode cJ9_floorMod_7cf53 5 = .ok (.iload_n 1, 1) := by decide +kernel
theorem dJ9_floorMod_7cf53_6 : decode cJ9_floorMod_7cf53 6 = .ok (.ixor, 1) := by decide +kernel
theorem dJ9_floorMod_7cf53_7 : decode cJ9_floorMod_7cf53 7 = .ok (.ifCond .ge 11, 3) := by decide +kernel
theorem dJ9_floorMod_7cf53_10 : decode cJ9_floorMod_7cf53 10 = .ok (.iload_n 2, 1) := by decide +kernel
theorem dJ9_floorMod_7cf53_11 : decode cJ9_floorMod_7cf53 11 = .ok (.ifCond .eq 7, 3) := by decide +kernel
theorem dJ9_floorMod_7cf53_14 : decode cJ9_floorMod_7cf53 14 = .ok (.iload_n 2, 1) := by decide +kernel
theorem dJ9_floorMod_7cf53_15 : decode cJ9_floorMod_7cf53 15 = .ok (.iload_n 1, 1) := by decide +kernel
theorem dJ9_floorMod_7cf53_16 : decode cJ9_floorMod_7cf53 16 = .ok (.iadd, 1) := by decide +kernel
theorem dJ9_floorMod_7cf53_17 : decode cJ9_floorMod_7cf53 17 = .ok (.ireturn, 1) := by decide +kernel
theorem dJ9_floorMod_7cf53_18 : decode cJ9_floorMod_7cf53 18 = .ok (.iload_n 2, 1) := by decide +kernel
theorem dJ9_floorMod_7cf53_19 : decode cJ9_floorMod_7cf53 19 = .ok (.ireturn, 1) := by decide +kernel
theorem dJ9_max_f86c9_0 : decode cJ9_max_f86c9 0 = .ok (.lload_n 0, 1) := by decide +kernel
theorem dJ9_max_f86c9_1 : decode cJ9_max_f86c9 1 = .ok (.lload_n 2, 1) := by decide +kernel
theorem dJ9_max_f86c9_2 : decode cJ9_max_f86c9 2 = .ok (.lcmp, 1) := by decide +kernel
theorem dJ9_max_f86c9_3 : decode cJ9_max_f86c9 3 = .ok (.ifCond .lt 7, 3) := by decide +kernel
theorem dJ9_max_f86c9_6 : decode cJ9_max_f86c9 6 = .ok (.lload_n 0, 1) := by decide +kernel
theorem dJ9_max_f86c9_7 : decode cJ9_max_f86c9 7 = .ok (.goto 4, 3) := by decide +kernel
theorem dJ9_max_f86c9_10 : decode cJ9_max_f86c9 10 = .ok (.lload_n 2, 1) := by decide +kernel
theorem dJ9_max_f86c9_11 : decode cJ9_max_f86c9 11 = .ok (.lreturn, 1) := by decide +kernel
theorem dJ9_min_7cf53_0 : decode cJ9_min_7cf53 0 = .ok (.iload_n 0, 1) := by decide +kernel
theorem dJ9_min_7cf53_1 : decode cJ9_min_7cf53 1 = .ok (.iload_n 1, 1) := by decide +kernel
theorem dJ9_min_7cf53_2 : decode cJ9_min_7cf53 2 = .ok (.if_icmp .gt 7, 3) := by decide +kernel
theorem dJ9_min_7cf53_5 : decode cJ9_min_7cf53 5 = .ok (.iload_n 0, 1) := by decide +kernel
theorem dJ9_min_7cf53_6 : decode cJ9_min_7cf53 6 = .ok (.goto 4, 3) := by decide +kernel
theorem dJ9_min_7cf53_9 : decode cJ9_min_7cf53 9 = .ok (.iload_n 1, 1) := by decide +kernel
theorem dJ9_min_7cf53_10 : decode cJ9_min_7cf53 10 = .ok (.ireturn, 1) := by decide +kernel
theorem dJ9_min_f86c9_0 : decode cJ9_min_f86c9 0 = .ok (.lload_n 0, 1) := by decide +kernel
theorem dJ9_min_f86c9_1 : decode cJ9_min_f86c9 1 = .ok (.lload_n 2, 1) := by decide +kernel
theorem dJ9_min_f86c9_2 : decode cJ9_min_f86c9 2 = .ok (.lcmp, 1) := by decide +kernel
theorem dJ9_min_f86c9_3 : decode cJ9_min_f86c9 3 = .ok (.ifCond .gt 7, 3) := by decide +kernel
theorem dJ9_min_f86c9_6 : decode cJ9_min_f86c9 6 = .ok (.lload_n 0, 1) := by decide +kernel
theorem dJ9_min_f86c9_7 : decode cJ9_min_f86c9 7 = .ok (.goto 4, 3) := by decide +kernel
theorem dJ9_min_f86c9_10 : decode cJ9_min_f86c9 10 = .ok (.lload_n 2, 1) := by decide +kernel
theorem dJ9_min_f86c9_11 : decode cJ9_min_f86c9 11 = .ok (.lreturn, 1) := by decide +kernel
theorem dJ7_fill_d0a16_0 : decode cJ7_fill_d0a16 0 = .ok (.iconst 0, 1) := by decide +kernel
theorem dJ7_fill_d0a16_1 : decode cJ7_fill_d0a16 1 = .ok (.istore_n 3, 1) := by decide +kernel
theorem dJ7_fill_d0a16_2 : decode cJ7_fill_d0a16 2 = .ok (.aload_n 0, 1) := by decide +kernel
theorem dJ7_fill_d0a16_3 : decode cJ7_fill_d0a16 3 = .ok (.arraylength, 1) := by decide +kernel
theorem dJ7_fill_d0a16_4 : decode cJ7_fill_d0a16 4 = .ok (.istore 4, 2) := by decide +kernel
theorem dJ7_fill_d0a16_6 : decode cJ7_fill_d0a16 6 = .ok (.iload_n 3, 1) := by decide +kernel
theorem dJ7_fill_d0a16_7 : decode cJ7_fill_d0a16 7 = .ok (.iload 4, 2) := by decide +kernel
theorem dJ7_fill_d0a16_9 : decode cJ7_fill_d0a16 9 = .ok (.if_icmp .ge 13, 3) := by decide +kernel
theorem dJ7_fill_d0a16_12 : decode cJ7_fill_d0a16 12 = .ok (.aload_n 0, 1) := by decide +kernel
theorem dJ7_fill_d0a16_13 : decode cJ7_fill_d0a16 13 = .ok (.iload_n 3, 1) := by decide +kernel
theorem dJ7_fill_d0a16_14 : decode cJ7_fill_d0a16 14 = .ok (.lload_n 1, 1) := by decide +kernel
theorem dJ7_fill_d0a16_15 : decode cJ7_fill_d0a16 15 = .ok (.lastore, 1) := by decide +kernel
theorem dJ7_fill_d0a16_16 : decode cJ7_fill_d0a16 16 = .ok (.iinc 3 1, 3) := by decide +kernel
theorem dJ7_fill_d0a16_19 : decode cJ7_fill_d0a16 19 = .ok (.goto (-13), 3) := by decide +kernel
theorem dJ7_fill_d0a16_22 : decode cJ7_fill_d0a16 22 = .ok (.return_, 1) := by decide +kernel
theorem dL_dice_0 : decode cL_dice 0 = .ok (.iload_n 1, 1) := by decide +kernel
theorem dL_dice_1 : decode cL_dice 1 = .ok (.aload_n 0, 1) := by decide +kernel
theorem dL_dice_2 : decode cL_dice 2 = .ok (.arraylength, 1) := by decide +kernel
theorem dL_dice_3 : decode cL_dice 3 = .ok (.if_icmp .ge 9, 3) := by decide +kernel
theorem dL_dice_6 : decode cL_dice 6 = .ok (.aload_n 0, 1) := by decide +kernel
theorem dL_dice_7 : decode cL_dice 7 = .ok (.iload_n 1, 1) := by decide +kernel
theorem dL_dice_8 : decode cL_dice 8 = .ok (.iaload, 1) := by decide +kernel
theorem dL_dice_9 : decode cL_dice 9 = .ok (.goto 23, 3) := by decide +kernel
theorem dL_dice_12 : decode cL_dice 12 = .ok (.ldc 7, 2) := by decide +kernel
theorem dL_dice_14 : decode cL_dice 14 = .ok (.iload_n 1, 1) := by decide +kernel
theorem dL_dice_15 : decode cL_dice 15 = .ok (.sipush 593, 3) := by decide +kernel
theorem dL_dice_18 : decode cL_dice 18 = .ok (.iadd, 1) := by decide +kernel
theorem dL_dice_19 : decode cL_dice 19 = .ok (.imul, 1) := by decide +kernel
theorem dL_dice_20 : decode cL_dice 20 = .ok (.sipush 937, 3) := by decide +kernel
theorem dL_dice_23 : decode cL_dice 23 = .ok (.iload_n 1, 1) := by decide +kernel
theorem dL_dice_24 : decode cL_dice 24 = .ok (.imul, 1) := by decide +kernel
theorem dL_dice_25 : decode cL_dice 25 = .ok (.iload_n 1, 1) := by decide +kernel
theorem dL_dice_26 : decode cL_dice 26 = .ok (.imul, 1) := by decide +kernel
theorem dL_dice_27 : decode cL_dice 27 = .ok (.iadd, 1) := by decide +kernel
theorem dL_dice_28 : decode cL_dice 28 = .ok (.sipush 449, 3) := by decide +kernel
theorem dL_dice_31 : decode cL_dice 31 = .ok (.iadd, 1) := by decide +kernel
theorem dL_dice_32 : decode cL_dice 32 = .ok (.ldc 8, 2) := by decide +kernel
theorem dL_dice_34 : decode cL_dice 34 = .ok (.iand, 1) := by decide +kernel
theorem dL_dice_35 : decode cL_dice 35 = .ok (.ireturn, 1) := by decide +kernel
theorem dL_act_0 : decode cL_act 0 = .ok (.iload_n 1, 1) := by decide +kernel
theorem dL_act_1 : decode cL_act 1 = .ok (.ifCond .ne 14, 3) := by decide +kernel
theorem dL_act_4 : decode cL_act 4 = .ok (.aload_n 0, 1) := by decide +kernel
theorem dL_act_5 : decode cL_act 5 = .ok (.iload_n 2, 1) := by decide +kernel
theorem dL_act_6 : decode cL_act 6 = .ok (.iload_n 3, 1) := by decide +kernel
theorem dL_act_7 : decode cL_act 7 = .ok (.iload 4, 2) := by decide +kernel
theorem dL_act_9 : decode cL_act 9 = .ok (.invokevirtual 9, 3) := by decide +kernel
theorem dL_act_12 : decode cL_act 12 = .ok (.goto 162, 3) := by decide +kernel
theorem dL_act_15 : decode cL_act 15 = .ok (.iload_n 1, 1) := by decide +kernel
theorem dL_act_16 : decode cL_act 16 = .ok (.iconst 1, 1) := by decide +kernel
theorem dL_act_17 : decode cL_act 17 = .ok (.if_icmp .ne 29, 3) := by decide +kernel
theorem dL_act_20 : decode cL_act 20 = .ok (.aload_n 0, 1) := by decide +kernel
theorem dL_act_21 : decode cL_act 21 = .ok (.iload_n 2, 1) := by decide +kernel
theorem dL_act_22 : decode cL_act 22 = .ok (.iload_n 3, 1) := by decide +kernel
theorem dL_act_23 : decode cL_act 23 = .ok (.iconst 1, 1) := by decide +kernel
theorem dL_act_24 : decode cL_act 24 = .ok (.if_icmp .ne 7, 3) := by decide +kernel
theorem dL_act_27 : decode cL_act 27 = .ok (.iconst 1, 1) := by decide +kernel
theorem dL_act_28 : decode cL_act 28 = .ok (.goto 4, 3) := by decide +kernel
theorem dL_act_31 : decode cL_act 31 = .ok (.iconst 0, 1) := by decide +kernel
theorem dL_act_32 : decode cL_act 32 = .ok (.invokevirtual 15, 3) := by decide +kernel
theorem dL_act_35 : decode cL_act 35 = .ok (.ifCond .eq 7, 3) := by decide +kernel
theorem dL_act_38 : decode cL_act 38 = .ok (.iconst 1, 1) := by decide +kernel
theorem dL_act_39 : decode cL_act 39 = .ok (.goto 135, 3) := by decide +kernel
theorem dL_act_42 : decode cL_act 42 = .ok (.iconst 0, 1) := by decide +kernel
theorem dL_act_43 : decode cL_act 43 = .ok (.goto 131, 3) := by decide +kernel
theorem dL_act_46 : decode cL_act 46 = .ok (.iload_n 1, 1) := by decide +kernel
theorem dL_act_47 : decode cL_act 47 = .ok (.iconst 2, 1) := by decide +kernel
theorem dL_act_48 : decode cL_act 48 = .ok (.if_icmp .ne 14, 3) := by decide +kernel
theorem dL_act_51 : decode cL_act 51 = .ok (.aload_n 0, 1) := by decide +kernel
theorem dL_act_52 : decode cL_act 52 = .ok (.iload_n 2, 1) := by decide +kernel
theorem dL_act_53 : decode cL_act 53 = .ok (.iload_n 3, 1) := by decide +kernel
theorem dL_act_54 : decode cL_act 54 = .ok (.iload 4, 2) := by decide +kernel
theorem dL_act_56 : decode cL_act 56 = .ok (.invokevirtual 19, 3) := by decide +kernel
theorem dL_act_59 : decode cL_act 59 = .ok (.goto 115, 3) := by decide +kernel
theorem dL_act_62 : decode cL_act 62 = .ok (.iload_n 1, 1) := by decide +kernel
theorem dL_act_63 : decode cL_act 63 = .ok (.iconst 3, 1) := by decide +kernel
theorem dL_act_64 : decode cL_act 64 = .ok (.if_icmp .ne 12, 3) := by decide +kernel
theorem dL_act_67 : decode cL_act 67 = .ok (.aload_n 0, 1) := by decide +kernel
theorem dL_act_68 : decode cL_act 68 = .ok (.iload_n 2, 1) := by decide +kernel
theorem dL_act_69 : decode cL_act 69 = .ok (.iload_n 3, 1) := by decide +kernel
theorem dL_act_70 : decode cL_act 70 = .ok (.invokevirtual 22, 3) := by decide +kernel
theorem dL_act_73 : decode cL_act 73 = .ok (.goto 101, 3) := by decide +kernel
theorem dL_act_76 : decode cL_act 76 = .ok (.iload_n 1, 1) := by decide +kernel
theorem dL_act_77 : decode cL_act 77 = .ok (.iconst 4, 1) := by decide +kernel
theorem dL_act_78 : decode cL_act 78 = .ok (.if_icmp .ne 11, 3) := by decide +kernel
theorem dL_act_81 : decode cL_act 81 = .ok (.aload_n 0, 1) := by decide +kernel
theorem dL_act_82 : decode cL_act 82 = .ok (.iload_n 2, 1) := by decide +kernel
theorem dL_act_83 : decode cL_act 83 = .ok (.invokevirtual 26, 3) := by decide +kernel
theorem dL_act_86 : decode cL_act 86 = .ok (.goto 88, 3) := by decide +kernel
theorem dL_act_89 : decode cL_act 89 = .ok (.iload_n 1, 1) := by decide +kernel
theorem dL_act_90 : decode cL_act 90 = .ok (.iconst 5, 1) := by decide +kernel
theorem dL_act_91 : decode cL_act 91 = .ok (.if_icmp .ne 11, 3) := by decide +kernel
theorem dL_act_94 : decode cL_act 94 = .ok (.aload_n 0, 1) := by decide +kernel
theorem dL_act_95 : decode cL_act 95 = .ok (.iload_n 2, 1) := by decide +kernel
theorem dL_act_96 : decode cL_act 96 = .ok (.invokevirtual 30, 3) := by decide +kernel
theorem dL_act_99 : decode cL_act 99 = .ok (.goto 75, 3) := by decide +kernel
theorem dL_act_102 : decode cL_act 102 = .ok (.iload_n 1, 1) := by decide +kernel
theorem dL_act_103 : decode cL_act 103 = .ok (.bipush 6, 2) := by decide +kernel
theorem dL_act_105 : decode cL_act 105 = .ok (.if_icmp .ne 11, 3) := by decide +kernel
theorem dL_act_108 : decode cL_act 108 = .ok (.aload_n 0, 1) := by decide +kernel
theorem dL_act_109 : decode cL_act 109 = .ok (.iload_n 2, 1) := by decide +kernel
theorem dL_act_110 : decode cL_act 110 = .ok (.invokevirtual 33, 3) := by decide +kernel
theorem dL_act_113 : decode cL_act 113 = .ok (.goto 61, 3) := by decide +kernel
theorem dL_act_116 : decode cL_act 116 = .ok (.iload_n 1, 1) := by decide +kernel
theorem dL_act_117 : decode cL_act 117 = .ok (.bipush 7, 2) := by decide +kernel
theorem dL_act_119 : decode cL_act 119 = .ok (.if_icmp .ne 12, 3) := by decide +kernel
theorem dL_act_122 : decode cL_act 122 = .ok (.aload_n 0, 1) := by decide +kernel
theorem dL_act_123 : decode cL_act 123 = .ok (.iload_n 2, 1) := by decide +kernel
theorem dL_act_124 : decode cL_act 124 = .ok (.iload_n 3, 1) := by decide +kernel
theorem dL_act_125 : decode cL_act 125 = .ok (.invokevirtual 36, 3) := by decide +kernel
theorem dL_act_128 : decode cL_act 128 = .ok (.goto 46, 3) := by decide +kernel
theorem dL_act_131 : decode cL_act 131 = .ok (.iload_n 1, 1) := by decide +kernel
theorem dL_act_132 : decode cL_act 132 = .ok (.bipush 8, 2) := by decide +kernel
theorem dL_act_134 : decode cL_act 134 = .ok (.if_icmp .ne 11, 3) := by decide +kernel
theorem dL_act_137 : decode cL_act 137 = .ok (.aload_n 0, 1) := by decide +kernel
theorem dL_act_138 : decode cL_act 138 = .ok (.iload_n 2, 1) := by decide +kernel
theorem dL_act_139 : decode cL_act 139 = .ok (.invokevirtual 39, 3) := by decide +kernel
theorem dL_act_142 : decode cL_act 142 = .ok (.goto 32, 3) := by decide +kernel
theorem dL_act_145 : decode cL_act 145 = .ok (.iload_n 1, 1) := by decide +kernel
theorem dL_act_146 : decode cL_act 146 = .ok (.bipush 9, 2) := by decide +kernel
theorem dL_act_148 : decode cL_act 148 = .ok (.if_icmp .ne 11, 3) := by decide +kernel
theorem dL_act_151 : decode cL_act 151 = .ok (.aload_n 0, 1) := by decide +kernel
theorem dL_act_152 : decode cL_act 152 = .ok (.iload_n 2, 1) := by decide +kernel
theorem dL_act_153 : decode cL_act 153 = .ok (.invokevirtual 42, 3) := by decide +kernel
theorem dL_act_156 : decode cL_act 156 = .ok (.goto 18, 3) := by decide +kernel
theorem dL_act_159 : decode cL_act 159 = .ok (.aload_n 0, 1) := by decide +kernel
theorem dL_act_160 : decode cL_act 160 = .ok (.iload_n 2, 1) := by decide +kernel
theorem dL_act_161 : decode cL_act 161 = .ok (.iload_n 3, 1) := by decide +kernel
theorem dL_act_162 : decode cL_act 162 = .ok (.iconst 1, 1) := by decide +kernel
theorem dL_act_163 : decode cL_act 163 = .ok (.if_icmp .ne 7, 3) := by decide +kernel
theorem dL_act_166 : decode cL_act 166 = .ok (.iconst 1, 1) := by decide +kernel
theorem dL_act_167 : decode cL_act 167 = .ok (.goto 4, 3) := by decide +kernel
theorem dL_act_170 : decode cL_act 170 = .ok (.iconst 0, 1) := by decide +kernel
theorem dL_act_171 : decode cL_act 171 = .ok (.invokevirtual 45, 3) := by decide +kernel
theorem dL_act_174 : decode cL_act 174 = .ok (.ireturn, 1) := by decide +kernel
theorem dL_act_175 : decode cL_act 175 = .ok (.astore 5, 2) := by decide +kernel
theorem dL_act_177 : decode cL_act 177 = .ok (.ldc 51, 2) := by decide +kernel
theorem dL_act_179 : decode cL_act 179 = .ok (.ireturn, 1) := by decide +kernel
theorem dL_act_180 : decode cL_act 180 = .ok (.astore 5, 2) := by decide +kernel
theorem dL_act_182 : decode cL_act 182 = .ok (.ldc 54, 2) := by decide +kernel
theorem dL_act_184 : decode cL_act 184 = .ok (.ireturn, 1) := by decide +kernel
theorem dL_act_185 : decode cL_act 185 = .ok (.astore 5, 2) := by decide +kernel
theorem dL_act_187 : decode cL_act 187 = .ok (.ldc 57, 2) := by decide +kernel
theorem dL_act_189 : decode cL_act 189 = .ok (.ireturn, 1) := by decide +kernel
theorem dL_tells_0 : decode cL_tells 0 = .ok (.iload_n 1, 1) := by decide +kernel
theorem dL_tells_1 : decode cL_tells 1 = .ok (.ifCond .ne 12, 3) := by decide +kernel
theorem dL_tells_4 : decode cL_tells 4 = .ok (.aload_n 0, 1) := by decide +kernel
theorem dL_tells_5 : decode cL_tells 5 = .ok (.iload_n 2, 1) := by decide +kernel
theorem dL_tells_6 : decode cL_tells 6 = .ok (.iload_n 3, 1) := by decide +kernel
theorem dL_tells_7 : decode cL_tells 7 = .ok (.invokevirtual 58, 3) := by decide +kernel
theorem dL_tells_10 : decode cL_tells 10 = .ok (.goto 21, 3) := by decide +kernel
theorem dL_tells_13 : decode cL_tells 13 = .ok (.iload_n 1, 1) := by decide +kernel
theorem dL_tells_14 : decode cL_tells 14 = .ok (.iconst 1, 1) := by decide +kernel
theorem dL_tells_15 : decode cL_tells 15 = .ok (.if_icmp .ne 11, 3) := by decide +kernel
theorem dL_tells_18 : decode cL_tells 18 = .ok (.aload_n 0, 1) := by decide +kernel
theorem dL_tells_19 : decode cL_tells 19 = .ok (.iload_n 2, 1) := by decide +kernel
theorem dL_tells_20 : decode cL_tells 20 = .ok (.invokevirtual 62, 3) := by decide +kernel
theorem dL_tells_23 : decode cL_tells 23 = .ok (.goto 8, 3) := by decide +kernel
theorem dL_tells_26 : decode cL_tells 26 = .ok (.aload_n 0, 1) := by decide +kernel
theorem dL_tells_27 : decode cL_tells 27 = .ok (.iload_n 2, 1) := by decide +kernel
theorem dL_tells_28 : decode cL_tells 28 = .ok (.invokevirtual 66, 3) := by decide +kernel
theorem dL_tells_31 : decode cL_tells 31 = .ok (.lreturn, 1) := by decide +kernel
theorem dL_tells_32 : decode cL_tells 32 = .ok (.astore 4, 2) := by decide +kernel
theorem dL_tells_34 : decode cL_tells 34 = .ok (.ldc2_w 69, 3) := by decide +kernel
theorem dL_tells_37 : decode cL_tells 37 = .ok (.lreturn, 1) := by decide +kernel
theorem dL_all_0 : decode cL_all 0 = .ok (.aload_n 0, 1) := by decide +kernel
theorem dL_all_1 : decode cL_all 1 = .ok (.invokevirtual 71, 3) := by decide +kernel
theorem dL_all_4 : decode cL_all 4 = .ok (.i2l, 1) := by decide +kernel
theorem dL_all_5 : decode cL_all 5 = .ok (.ldc2_w 75, 3) := by decide +kernel
theorem dL_all_8 : decode cL_all 8 = .ok (.aload_n 0, 1) := by decide +kernel
theorem dL_all_9 : decode cL_all 9 = .ok (.iconst 0, 1) := by decide +kernel
theorem dL_all_10 : decode cL_all 10 = .ok (.invokevirtual 62, 3) := by decide +kernel
theorem dL_all_13 : decode cL_all 13 = .ok (.lmul, 1) := by decide +kernel
theorem dL_all_14 : decode cL_all 14 = .ok (.ladd, 1) := by decide +kernel
theorem dL_all_15 : decode cL_all 15 = .ok (.ldc2_w 77, 3) := by decide +kernel
theorem dL_all_18 : decode cL_all 18 = .ok (.aload_n 0, 1) := by decide +kernel
theorem dL_all_19 : decode cL_all 19 = .ok (.iconst 3, 1) := by decide +kernel
theorem dL_all_20 : decode cL_all 20 = .ok (.invokevirtual 62, 3) := by decide +kernel
theorem dL_all_23 : decode cL_all 23 = .ok (.lmul, 1) := by decide +kernel
theorem dL_all_24 : decode cL_all 24 = .ok (.ladd, 1) := by decide +kernel
theorem dL_all_25 : decode cL_all 25 = .ok (.lstore_n 2, 1) := by decide +kernel
theorem dL_all_26 : decode cL_all 26 = .ok (.iconst 0, 1) := by decide +kernel
theorem dL_all_27 : decode cL_all 27 = .ok (.istore 4, 2) := by decide +kernel
theorem dL_all_29 : decode cL_all 29 = .ok (.iload 4, 2) := by decide +kernel
theorem dL_all_31 : decode cL_all 31 = .ok (.aload_n 1, 1) := by decide +kernel
theorem dL_all_32 : decode cL_all 32 = .ok (.iconst 1, 1) := by decide +kernel
theorem dL_all_33 : decode cL_all 33 = .ok (.iaload, 1) := by decide +kernel
theorem dL_all_34 : decode cL_all 34 = .ok (.if_icmp .ge 60, 3) := by decide +kernel
theorem dL_all_37 : decode cL_all 37 = .ok (.ldc2_w 75, 3) := by decide +kernel
theorem dL_all_40 : decode cL_all 40 = .ok (.lload_n 2, 1) := by decide +kernel
theorem dL_all_41 : decode cL_all 41 = .ok (.lmul, 1) := by decide +kernel
theorem dL_all_42 : decode cL_all 42 = .ok (.aload_n 0, 1) := by decide +kernel
theorem dL_all_43 : decode cL_all 43 = .ok (.iload 4, 2) := by decide +kernel
theorem dL_all_45 : decode cL_all 45 = .ok (.iconst 0, 1) := by decide +kernel
theorem dL_all_46 : decode cL_all 46 = .ok (.invokevirtual 45, 3) := by decide +kernel
theorem dL_all_49 : decode cL_all 49 = .ok (.i2l, 1) := by decide +kernel
theorem dL_all_50 : decode cL_all 50 = .ok (.ladd, 1) := by decide +kernel
theorem dL_all_51 : decode cL_all 51 = .ok (.ldc2_w 77, 3) := by decide +kernel
theorem dL_all_54 : decode cL_all 54 = .ok (.aload_n 0, 1) := by decide +kernel
theorem dL_all_55 : decode cL_all 55 = .ok (.iload 4, 2) := by decide +kernel
theorem dL_all_57 : decode cL_all 57 = .ok (.iconst 1, 1) := by decide +kernel
theorem dL_all_58 : decode cL_all 58 = .ok (.invokevirtual 45, 3) := by decide +kernel
theorem dL_all_61 : decode cL_all 61 = .ok (.i2l, 1) := by decide +kernel
theorem dL_all_62 : decode cL_all 62 = .ok (.lmul, 1) := by decide +kernel
theorem dL_all_63 : decode cL_all 63 = .ok (.ladd, 1) := by decide +kernel
theorem dL_all_64 : decode cL_all 64 = .ok (.ldc2_w 79, 3) := by decide +kernel
theorem dL_all_67 : decode cL_all 67 = .ok (.aload_n 0, 1) := by decide +kernel
theorem dL_all_68 : decode cL_all 68 = .ok (.iload 4, 2) := by decide +kernel
theorem dL_all_70 : decode cL_all 70 = .ok (.iconst 5, 1) := by decide +kernel
theorem dL_all_71 : decode cL_all 71 = .ok (.invokevirtual 36, 3) := by decide +kernel
theorem dL_all_74 : decode cL_all 74 = .ok (.i2l, 1) := by decide +kernel
theorem dL_all_75 : decode cL_all 75 = .ok (.lmul, 1) := by decide +kernel
theorem dL_all_76 : decode cL_all 76 = .ok (.ladd, 1) := by decide +kernel
theorem dL_all_77 : decode cL_all 77 = .ok (.aload_n 0, 1) := by decide +kernel
theorem dL_all_78 : decode cL_all 78 = .ok (.iload 4, 2) := by decide +kernel
theorem dL_all_80 : decode cL_all 80 = .ok (.bipush 40, 2) := by decide +kernel
theorem dL_all_82 : decode cL_all 82 = .ok (.invokevirtual 36, 3) := by decide +kernel
theorem dL_all_85 : decode cL_all 85 = .ok (.i2l, 1) := by decide +kernel
theorem dL_all_86 : decode cL_all 86 = .ok (.ladd, 1) := by decide +kernel
theorem dL_all_87 : decode cL_all 87 = .ok (.lstore_n 2, 1) := by decide +kernel
theorem dL_all_88 : decode cL_all 88 = .ok (.iinc 4 1, 3) := by decide +kernel
theorem dL_all_91 : decode cL_all 91 = .ok (.goto (-62), 3) := by decide +kernel
theorem dL_all_94 : decode cL_all 94 = .ok (.lload_n 2, 1) := by decide +kernel
theorem dL_all_95 : decode cL_all 95 = .ok (.lreturn, 1) := by decide +kernel
theorem dL_isRefused_0 : decode cL_isRefused 0 = .ok (.iload_n 2, 1) := by decide +kernel
theorem dL_isRefused_1 : decode cL_isRefused 1 = .ok (.iconst 2, 1) := by decide +kernel
theorem dL_isRefused_2 : decode cL_isRefused 2 = .ok (.irem, 1) := by decide +kernel
theorem dL_isRefused_3 : decode cL_isRefused 3 = .ok (.ifCond .ne 7, 3) := by decide +kernel
theorem dL_isRefused_6 : decode cL_isRefused 6 = .ok (.iconst 1, 1) := by decide +kernel
theorem dL_isRefused_7 : decode cL_isRefused 7 = .ok (.goto 4, 3) := by decide +kernel
theorem dL_isRefused_10 : decode cL_isRefused 10 = .ok (.iconst 0, 1) := by decide +kernel
theorem dL_isRefused_11 : decode cL_isRefused 11 = .ok (.istore_n 3, 1) := by decide +kernel
theorem dL_isRefused_12 : decode cL_isRefused 12 = .ok (.iload_n 3, 1) := by decide +kernel
theorem dL_isRefused_13 : decode cL_isRefused 13 = .ok (.ifCond .eq 12, 3) := by decide +kernel
theorem dL_isRefused_16 : decode cL_isRefused 16 = .ok (.iconst (-1), 1) := by decide +kernel
theorem dL_isRefused_17 : decode cL_isRefused 17 = .ok (.iload_n 2, 1) := by decide +kernel
theorem dL_isRefused_18 : decode cL_isRefused 18 = .ok (.bipush 30, 2) := by decide +kernel
theorem dL_isRefused_20 : decode cL_isRefused 20 = .ok (.irem, 1) := by decide +kernel
theorem dL_isRefused_21 : decode cL_isRefused 21 = .ok (.isub, 1) := by decide +kernel
theorem dL_isRefused_22 : decode cL_isRefused 22 = .ok (.goto 11, 3) := by decide +kernel
theorem dL_isRefused_25 : decode cL_isRefused 25 = .ok (.aload_n 1, 1) := by decide +kernel
theorem dL_isRefused_26 : decode cL_isRefused 26 = .ok (.iconst 1, 1) := by decide +kernel
theorem dL_isRefused_27 : decode cL_isRefused 27 = .ok (.iaload, 1) := by decide +kernel
theorem dL_isRefused_28 : decode cL_isRefused 28 = .ok (.iload_n 2, 1) := by decide +kernel
theorem dL_isRefused_29 : decode cL_isRefused 29 = .ok (.bipush 30, 2) := by decide +kernel
theorem dL_isRefused_31 : decode cL_isRefused 31 = .ok (.irem, 1) := by decide +kernel
theorem dL_isRefused_32 : decode cL_isRefused 32 = .ok (.iadd, 1) := by decide +kernel
theorem dL_isRefused_33 : decode cL_isRefused 33 = .ok (.istore 4, 2) := by decide +kernel
theorem dL_isRefused_35 : decode cL_isRefused 35 = .ok (.iload_n 3, 1) := by decide +kernel
theorem dL_isRefused_36 : decode cL_isRefused 36 = .ok (.ifCond .eq 13, 3) := by decide +kernel
theorem dL_isRefused_39 : decode cL_isRefused 39 = .ok (.bipush (-5), 2) := by decide +kernel
theorem dL_isRefused_41 : decode cL_isRefused 41 = .ok (.iload_n 2, 1) := by decide +kernel
theorem dL_isRefused_42 : decode cL_isRefused 42 = .ok (.bipush 30, 2) := by decide +kernel
theorem dL_isRefused_44 : decode cL_isRefused 44 = .ok (.irem, 1) := by decide +kernel
theorem dL_isRefused_45 : decode cL_isRefused 45 = .ok (.isub, 1) := by decide +kernel
theorem dL_isRefused_46 : decode cL_isRefused 46 = .ok (.goto 9, 3) := by decide +kernel
theorem dL_isRefused_49 : decode cL_isRefused 49 = .ok (.iconst 5, 1) := by decide +kernel
theorem dL_isRefused_50 : decode cL_isRefused 50 = .ok (.iload_n 2, 1) := by decide +kernel
theorem dL_isRefused_51 : decode cL_isRefused 51 = .ok (.bipush 30, 2) := by decide +kernel
theorem dL_isRefused_53 : decode cL_isRefused 53 = .ok (.irem, 1) := by decide +kernel
theorem dL_isRefused_54 : decode cL_isRefused 54 = .ok (.iadd, 1) := by decide +kernel
theorem dL_isRefused_55 : decode cL_isRefused 55 = .ok (.istore 5, 2) := by decide +kernel
theorem dL_isRefused_57 : decode cL_isRefused 57 = .ok (.iload_n 3, 1) := by decide +kernel
theorem dL_isRefused_58 : decode cL_isRefused 58 = .ok (.ifCond .eq 12, 3) := by decide +kernel
theorem dL_isRefused_61 : decode cL_isRefused 61 = .ok (.iconst 0, 1) := by decide +kernel
theorem dL_isRefused_62 : decode cL_isRefused 62 = .ok (.iload_n 2, 1) := by decide +kernel
theorem dL_isRefused_63 : decode cL_isRefused 63 = .ok (.bipush 30, 2) := by decide +kernel
theorem dL_isRefused_65 : decode cL_isRefused 65 = .ok (.irem, 1) := by decide +kernel
theorem dL_isRefused_66 : decode cL_isRefused 66 = .ok (.isub, 1) := by decide +kernel
theorem dL_isRefused_67 : decode cL_isRefused 67 = .ok (.goto 10, 3) := by decide +kernel
theorem dL_isRefused_70 : decode cL_isRefused 70 = .ok (.bipush 101, 2) := by decide +kernel
theorem dL_isRefused_72 : decode cL_isRefused 72 = .ok (.iload_n 2, 1) := by decide +kernel
theorem dL_isRefused_73 : decode cL_isRefused 73 = .ok (.bipush 30, 2) := by decide +kernel
theorem dL_isRefused_75 : decode cL_isRefused 75 = .ok (.irem, 1) := by decide +kernel
theorem dL_isRefused_76 : decode cL_isRefused 76 = .ok (.iadd, 1) := by decide +kernel
theorem dL_isRefused_77 : decode cL_isRefused 77 = .ok (.istore 6, 2) := by decide +kernel
theorem dL_isRefused_79 : decode cL_isRefused 79 = .ok (.aload_n 0, 1) := by decide +kernel
theorem dL_isRefused_80 : decode cL_isRefused 80 = .ok (.aload_n 1, 1) := by decide +kernel
theorem dL_isRefused_81 : decode cL_isRefused 81 = .ok (.invokestatic 81, 3) := by decide +kernel
theorem dL_isRefused_84 : decode cL_isRefused 84 = .ok (.lstore 7, 2) := by decide +kernel
theorem dL_isRefused_86 : decode cL_isRefused 86 = .ok (.aload_n 0, 1) := by decide +kernel
theorem dL_isRefused_87 : decode cL_isRefused 87 = .ok (.iconst 0, 1) := by decide +kernel
theorem dL_isRefused_88 : decode cL_isRefused 88 = .ok (.iload_n 3, 1) := by decide +kernel
theorem dL_isRefused_89 : decode cL_isRefused 89 = .ok (.ifCond .eq 12, 3) := by decide +kernel
theorem dL_isRefused_92 : decode cL_isRefused 92 = .ok (.iconst (-1), 1) := by decide +kernel
theorem dL_isRefused_93 : decode cL_isRefused 93 = .ok (.iload_n 2, 1) := by decide +kernel
theorem dL_isRefused_94 : decode cL_isRefused 94 = .ok (.bipush 30, 2) := by decide +kernel
theorem dL_isRefused_96 : decode cL_isRefused 96 = .ok (.irem, 1) := by decide +kernel
theorem dL_isRefused_97 : decode cL_isRefused 97 = .ok (.isub, 1) := by decide +kernel
theorem dL_isRefused_98 : decode cL_isRefused 98 = .ok (.goto 5, 3) := by decide +kernel
theorem dL_isRefused_101 : decode cL_isRefused 101 = .ok (.bipush 13, 2) := by decide +kernel
theorem dL_isRefused_103 : decode cL_isRefused 103 = .ok (.bipush 64, 2) := by decide +kernel
theorem dL_isRefused_105 : decode cL_isRefused 105 = .ok (.iconst 0, 1) := by decide +kernel
theorem dL_isRefused_106 : decode cL_isRefused 106 = .ok (.invokestatic 87, 3) := by decide +kernel
theorem dL_isRefused_109 : decode cL_isRefused 109 = .ok (.ldc 54, 2) := by decide +kernel
theorem dL_isRefused_111 : decode cL_isRefused 111 = .ok (.if_icmp .ne 389, 3) := by decide +kernel
theorem dL_isRefused_114 : decode cL_isRefused 114 = .ok (.aload_n 0, 1) := by decide +kernel
theorem dL_isRefused_115 : decode cL_isRefused 115 = .ok (.iconst 0, 1) := by decide +kernel
theorem dL_isRefused_116 : decode cL_isRefused 116 = .ok (.iconst 5, 1) := by decide +kernel
theorem dL_isRefused_117 : decode cL_isRefused 117 = .ok (.iload_n 3, 1) := by decide +kernel
theorem dL_isRefused_118 : decode cL_isRefused 118 = .ok (.ifCond .eq 8, 3) := by decide +kernel
theorem dL_isRefused_121 : decode cL_isRefused 121 = .ok (.bipush 31, 2) := by decide +kernel
theorem dL_isRefused_123 : decode cL_isRefused 123 = .ok (.goto 10, 3) := by decide +kernel
theorem dL_isRefused_126 : decode cL_isRefused 126 = .ok (.bipush 97, 2) := by decide +kernel
theorem dL_isRefused_128 : decode cL_isRefused 128 = .ok (.iload_n 2, 1) := by decide +kernel
theorem dL_isRefused_129 : decode cL_isRefused 129 = .ok (.bipush 30, 2) := by decide +kernel
theorem dL_isRefused_131 : decode cL_isRefused 131 = .ok (.irem, 1) := by decide +kernel
theorem dL_isRefused_132 : decode cL_isRefused 132 = .ok (.iadd, 1) := by decide +kernel
theorem dL_isRefused_133 : decode cL_isRefused 133 = .ok (.iconst 0, 1) := by decide +kernel
theorem dL_isRefused_134 : decode cL_isRefused 134 = .ok (.invokestatic 87, 3) := by decide +kernel
theorem dL_isRefused_137 : decode cL_isRefused 137 = .ok (.ldc 54, 2) := by decide +kernel
theorem dL_isRefused_139 : decode cL_isRefused 139 = .ok (.if_icmp .ne 361, 3) := by decide +kernel
theorem dL_isRefused_142 : decode cL_isRefused 142 = .ok (.aload_n 0, 1) := by decide +kernel
theorem dL_isRefused_143 : decode cL_isRefused 143 = .ok (.iconst 0, 1) := by decide +kernel
theorem dL_isRefused_144 : decode cL_isRefused 144 = .ok (.iconst 5, 1) := by decide +kernel
theorem dL_isRefused_145 : decode cL_isRefused 145 = .ok (.bipush 64, 2) := by decide +kernel
theorem dL_isRefused_147 : decode cL_isRefused 147 = .ok (.iload_n 3, 1) := by decide +kernel
theorem dL_isRefused_148 : decode cL_isRefused 148 = .ok (.ifCond .eq 13, 3) := by decide +kernel
theorem dL_isRefused_151 : decode cL_isRefused 151 = .ok (.bipush (-4), 2) := by decide +kernel
theorem dL_isRefused_153 : decode cL_isRefused 153 = .ok (.iload_n 2, 1) := by decide +kernel
theorem dL_isRefused_154 : decode cL_isRefused 154 = .ok (.bipush 30, 2) := by decide +kernel
theorem dL_isRefused_156 : decode cL_isRefused 156 = .ok (.irem, 1) := by decide +kernel
theorem dL_isRefused_157 : decode cL_isRefused 157 = .ok (.isub, 1) := by decide +kernel
theorem dL_isRefused_158 : decode cL_isRefused 158 = .ok (.goto 4, 3) := by decide +kernel
theorem dL_isRefused_161 : decode cL_isRefused 161 = .ok (.iconst 4, 1) := by decide +kernel
theorem dL_isRefused_162 : decode cL_isRefused 162 = .ok (.invokestatic 87, 3) := by decide +kernel
theorem dL_isRefused_165 : decode cL_isRefused 165 = .ok (.ldc 54, 2) := by decide +kernel
theorem dL_isRefused_167 : decode cL_isRefused 167 = .ok (.if_icmp .ne 333, 3) := by decide +kernel
theorem dL_isRefused_170 : decode cL_isRefused 170 = .ok (.aload_n 0, 1) := by decide +kernel
theorem dL_isRefused_171 : decode cL_isRefused 171 = .ok (.iconst 1, 1) := by decide +kernel
theorem dL_isRefused_172 : decode cL_isRefused 172 = .ok (.iload 4, 2) := by decide +kernel
theorem dL_isRefused_174 : decode cL_isRefused 174 = .ok (.iconst 0, 1) := by decide +kernel
theorem dL_isRefused_175 : decode cL_isRefused 175 = .ok (.iconst 0, 1) := by decide +kernel
theorem dL_isRefused_176 : decode cL_isRefused 176 = .ok (.invokestatic 87, 3) := by decide +kernel
theorem dL_isRefused_179 : decode cL_isRefused 179 = .ok (.ldc 51, 2) := by decide +kernel
theorem dL_isRefused_181 : decode cL_isRefused 181 = .ok (.if_icmp .ne 319, 3) := by decide +kernel
theorem dL_isRefused_184 : decode cL_isRefused 184 = .ok (.aload_n 0, 1) := by decide +kernel
theorem dL_isRefused_185 : decode cL_isRefused 185 = .ok (.iconst 2, 1) := by decide +kernel
theorem dL_isRefused_186 : decode cL_isRefused 186 = .ok (.iload 5, 2) := by decide +kernel
theorem dL_isRefused_188 : decode cL_isRefused 188 = .ok (.iconst 0, 1) := by decide +kernel
theorem dL_isRefused_189 : decode cL_isRefused 189 = .ok (.iconst 5, 1) := by decide +kernel
theorem dL_isRefused_190 : decode cL_isRefused 190 = .ok (.invokestatic 87, 3) := by decide +kernel
theorem dL_isRefused_193 : decode cL_isRefused 193 = .ok (.ldc 51, 2) := by decide +kernel
theorem dL_isRefused_195 : decode cL_isRefused 195 = .ok (.if_icmp .ne 305, 3) := by decide +kernel
theorem dL_isRefused_198 : decode cL_isRefused 198 = .ok (.aload_n 0, 1) := by decide +kernel
theorem dL_isRefused_199 : decode cL_isRefused 199 = .ok (.iconst 2, 1) := by decide +kernel
theorem dL_isRefused_200 : decode cL_isRefused 200 = .ok (.iconst 0, 1) := by decide +kernel
theorem dL_isRefused_201 : decode cL_isRefused 201 = .ok (.iload 6, 2) := by decide +kernel
theorem dL_isRefused_203 : decode cL_isRefused 203 = .ok (.iconst 5, 1) := by decide +kernel
theorem dL_isRefused_204 : decode cL_isRefused 204 = .ok (.invokestatic 87, 3) := by decide +kernel
theorem dL_isRefused_207 : decode cL_isRefused 207 = .ok (.ldc 54, 2) := by decide +kernel
theorem dL_isRefused_209 : decode cL_isRefused 209 = .ok (.if_icmp .ne 291, 3) := by decide +kernel
theorem dL_isRefused_212 : decode cL_isRefused 212 = .ok (.aload_n 0, 1) := by decide +kernel
theorem dL_isRefused_213 : decode cL_isRefused 213 = .ok (.iconst 2, 1) := by decide +kernel
theorem dL_isRefused_214 : decode cL_isRefused 214 = .ok (.iconst 0, 1) := by decide +kernel
theorem dL_isRefused_215 : decode cL_isRefused 215 = .ok (.iconst 5, 1) := by decide +kernel
theorem dL_isRefused_216 : decode cL_isRefused 216 = .ok (.iload_n 3, 1) := by decide +kernel
theorem dL_isRefused_217 : decode cL_isRefused 217 = .ok (.ifCond .eq 12, 3) := by decide +kernel
theorem dL_isRefused_220 : decode cL_isRefused 220 = .ok (.iconst 1, 1) := by decide +kernel
theorem dL_isRefused_221 : decode cL_isRefused 221 = .ok (.iload_n 2, 1) := by decide +kernel
theorem dL_isRefused_222 : decode cL_isRefused 222 = .ok (.bipush 30, 2) := by decide +kernel
theorem dL_isRefused_224 : decode cL_isRefused 224 = .ok (.irem, 1) := by decide +kernel
theorem dL_isRefused_225 : decode cL_isRefused 225 = .ok (.isub, 1) := by decide +kernel
theorem dL_isRefused_226 : decode cL_isRefused 226 = .ok (.goto 5, 3) := by decide +kernel
theorem dL_isRefused_229 : decode cL_isRefused 229 = .ok (.bipush 17, 2) := by decide +kernel
theorem dL_isRefused_231 : decode cL_isRefused 231 = .ok (.invokestatic 87, 3) := by decide +kernel
theorem dL_isRefused_234 : decode cL_isRefused 234 = .ok (.ldc 54, 2) := by decide +kernel
theorem dL_isRefused_236 : decode cL_isRefused 236 = .ok (.if_icmp .ne 264, 3) := by decide +kernel
theorem dL_isRefused_239 : decode cL_isRefused 239 = .ok (.aload_n 0, 1) := by decide +kernel
theorem dL_isRefused_240 : decode cL_isRefused 240 = .ok (.iconst 3, 1) := by decide +kernel
theorem dL_isRefused_241 : decode cL_isRefused 241 = .ok (.iload_n 3, 1) := by decide +kernel
theorem dL_isRefused_242 : decode cL_isRefused 242 = .ok (.ifCond .eq 12, 3) := by decide +kernel
theorem dL_isRefused_245 : decode cL_isRefused 245 = .ok (.iconst (-1), 1) := by decide +kernel
theorem dL_isRefused_246 : decode cL_isRefused 246 = .ok (.iload_n 2, 1) := by decide +kernel
theorem dL_isRefused_247 : decode cL_isRefused 247 = .ok (.bipush 30, 2) := by decide +kernel
theorem dL_isRefused_249 : decode cL_isRefused 249 = .ok (.irem, 1) := by decide +kernel
theorem dL_isRefused_250 : decode cL_isRefused 250 = .ok (.isub, 1) := by decide +kernel
theorem dL_isRefused_251 : decode cL_isRefused 251 = .ok (.goto 5, 3) := by decide +kernel
theorem dL_isRefused_254 : decode cL_isRefused 254 = .ok (.bipush 51, 2) := by decide +kernel
theorem dL_isRefused_256 : decode cL_isRefused 256 = .ok (.iconst 5, 1) := by decide +kernel
theorem dL_isRefused_257 : decode cL_isRefused 257 = .ok (.iconst 0, 1) := by decide +kernel
theorem dL_isRefused_258 : decode cL_isRefused 258 = .ok (.invokestatic 87, 3) := by decide +kernel
theorem dL_isRefused_261 : decode cL_isRefused 261 = .ok (.ldc 54, 2) := by decide +kernel
theorem dL_isRefused_263 : decode cL_isRefused 263 = .ok (.if_icmp .ne 237, 3) := by decide +kernel
theorem dL_isRefused_266 : decode cL_isRefused 266 = .ok (.aload_n 0, 1) := by decide +kernel
theorem dL_isRefused_267 : decode cL_isRefused 267 = .ok (.iconst 3, 1) := by decide +kernel
theorem dL_isRefused_268 : decode cL_isRefused 268 = .ok (.iconst 5, 1) := by decide +kernel
theorem dL_isRefused_269 : decode cL_isRefused 269 = .ok (.iload_n 3, 1) := by decide +kernel
theorem dL_isRefused_270 : decode cL_isRefused 270 = .ok (.ifCond .eq 12, 3) := by decide +kernel
theorem dL_isRefused_273 : decode cL_isRefused 273 = .ok (.iconst 0, 1) := by decide +kernel
theorem dL_isRefused_274 : decode cL_isRefused 274 = .ok (.iload_n 2, 1) := by decide +kernel
theorem dL_isRefused_275 : decode cL_isRefused 275 = .ok (.bipush 30, 2) := by decide +kernel
theorem dL_isRefused_277 : decode cL_isRefused 277 = .ok (.irem, 1) := by decide +kernel
theorem dL_isRefused_278 : decode cL_isRefused 278 = .ok (.isub, 1) := by decide +kernel
theorem dL_isRefused_279 : decode cL_isRefused 279 = .ok (.goto 5, 3) := by decide +kernel
theorem dL_isRefused_282 : decode cL_isRefused 282 = .ok (.ldc 91, 2) := by decide +kernel
theorem dL_isRefused_284 : decode cL_isRefused 284 = .ok (.iconst 0, 1) := by decide +kernel
theorem dL_isRefused_285 : decode cL_isRefused 285 = .ok (.invokestatic 87, 3) := by decide +kernel
theorem dL_isRefused_288 : decode cL_isRefused 288 = .ok (.ldc 54, 2) := by decide +kernel
theorem dL_isRefused_290 : decode cL_isRefused 290 = .ok (.if_icmp .ne 210, 3) := by decide +kernel
theorem dL_isRefused_293 : decode cL_isRefused 293 = .ok (.aload_n 0, 1) := by decide +kernel
theorem dL_isRefused_294 : decode cL_isRefused 294 = .ok (.iconst 4, 1) := by decide +kernel
theorem dL_isRefused_295 : decode cL_isRefused 295 = .ok (.iload 6, 2) := by decide +kernel
theorem dL_isRefused_297 : decode cL_isRefused 297 = .ok (.iconst 0, 1) := by decide +kernel
theorem dL_isRefused_298 : decode cL_isRefused 298 = .ok (.iconst 0, 1) := by decide +kernel
theorem dL_isRefused_299 : decode cL_isRefused 299 = .ok (.invokestatic 87, 3) := by decide +kernel
theorem dL_isRefused_302 : decode cL_isRefused 302 = .ok (.ldc 54, 2) := by decide +kernel
theorem dL_isRefused_304 : decode cL_isRefused 304 = .ok (.if_icmp .ne 196, 3) := by decide +kernel
theorem dL_isRefused_307 : decode cL_isRefused 307 = .ok (.aload_n 0, 1) := by decide +kernel
theorem dL_isRefused_308 : decode cL_isRefused 308 = .ok (.iconst 5, 1) := by decide +kernel
theorem dL_isRefused_309 : decode cL_isRefused 309 = .ok (.iload_n 3, 1) := by decide +kernel
theorem dL_isRefused_310 : decode cL_isRefused 310 = .ok (.ifCond .eq 7, 3) := by decide +kernel
theorem dL_isRefused_313 : decode cL_isRefused 313 = .ok (.iconst (-1), 1) := by decide +kernel
theorem dL_isRefused_314 : decode cL_isRefused 314 = .ok (.goto 9, 3) := by decide +kernel
theorem dL_isRefused_317 : decode cL_isRefused 317 = .ok (.iconst 3, 1) := by decide +kernel
theorem dL_isRefused_318 : decode cL_isRefused 318 = .ok (.iload_n 2, 1) := by decide +kernel
theorem dL_isRefused_319 : decode cL_isRefused 319 = .ok (.bipush 30, 2) := by decide +kernel
theorem dL_isRefused_321 : decode cL_isRefused 321 = .ok (.irem, 1) := by decide +kernel
theorem dL_isRefused_322 : decode cL_isRefused 322 = .ok (.iadd, 1) := by decide +kernel
theorem dL_isRefused_323 : decode cL_isRefused 323 = .ok (.iconst 0, 1) := by decide +kernel
theorem dL_isRefused_324 : decode cL_isRefused 324 = .ok (.iconst 0, 1) := by decide +kernel
theorem dL_isRefused_325 : decode cL_isRefused 325 = .ok (.invokestatic 87, 3) := by decide +kernel
theorem dL_isRefused_328 : decode cL_isRefused 328 = .ok (.ldc 54, 2) := by decide +kernel
theorem dL_isRefused_330 : decode cL_isRefused 330 = .ok (.if_icmp .ne 170, 3) := by decide +kernel
theorem dL_isRefused_333 : decode cL_isRefused 333 = .ok (.aload_n 0, 1) := by decide +kernel
theorem dL_isRefused_334 : decode cL_isRefused 334 = .ok (.bipush 6, 2) := by decide +kernel
theorem dL_isRefused_336 : decode cL_isRefused 336 = .ok (.iload 5, 2) := by decide +kernel
theorem dL_isRefused_338 : decode cL_isRefused 338 = .ok (.iconst 0, 1) := by decide +kernel
theorem dL_isRefused_339 : decode cL_isRefused 339 = .ok (.iconst 0, 1) := by decide +kernel
theorem dL_isRefused_340 : decode cL_isRefused 340 = .ok (.invokestatic 87, 3) := by decide +kernel
theorem dL_isRefused_343 : decode cL_isRefused 343 = .ok (.ldc 51, 2) := by decide +kernel
theorem dL_isRefused_345 : decode cL_isRefused 345 = .ok (.if_icmp .ne 155, 3) := by decide +kernel
theorem dL_isRefused_348 : decode cL_isRefused 348 = .ok (.aload_n 0, 1) := by decide +kernel
theorem dL_isRefused_349 : decode cL_isRefused 349 = .ok (.bipush 7, 2) := by decide +kernel
theorem dL_isRefused_351 : decode cL_isRefused 351 = .ok (.iload 4, 2) := by decide +kernel
theorem dL_isRefused_353 : decode cL_isRefused 353 = .ok (.iconst 0, 1) := by decide +kernel
theorem dL_isRefused_354 : decode cL_isRefused 354 = .ok (.iconst 0, 1) := by decide +kernel
theorem dL_isRefused_355 : decode cL_isRefused 355 = .ok (.invokestatic 87, 3) := by decide +kernel
theorem dL_isRefused_358 : decode cL_isRefused 358 = .ok (.ldc 51, 2) := by decide +kernel
theorem dL_isRefused_360 : decode cL_isRefused 360 = .ok (.if_icmp .ne 140, 3) := by decide +kernel
theorem dL_isRefused_363 : decode cL_isRefused 363 = .ok (.aload_n 0, 1) := by decide +kernel
theorem dL_isRefused_364 : decode cL_isRefused 364 = .ok (.bipush 8, 2) := by decide +kernel
theorem dL_isRefused_366 : decode cL_isRefused 366 = .ok (.iload 6, 2) := by decide +kernel
theorem dL_isRefused_368 : decode cL_isRefused 368 = .ok (.iconst 0, 1) := by decide +kernel
theorem dL_isRefused_369 : decode cL_isRefused 369 = .ok (.iconst 0, 1) := by decide +kernel
theorem dL_isRefused_370 : decode cL_isRefused 370 = .ok (.invokestatic 87, 3) := by decide +kernel
theorem dL_isRefused_373 : decode cL_isRefused 373 = .ok (.ldc 54, 2) := by decide +kernel
theorem dL_isRefused_375 : decode cL_isRefused 375 = .ok (.if_icmp .ne 125, 3) := by decide +kernel
theorem dL_isRefused_378 : decode cL_isRefused 378 = .ok (.aload_n 0, 1) := by decide +kernel
theorem dL_isRefused_379 : decode cL_isRefused 379 = .ok (.bipush 9, 2) := by decide +kernel
theorem dL_isRefused_381 : decode cL_isRefused 381 = .ok (.iload_n 3, 1) := by decide +kernel
theorem dL_isRefused_382 : decode cL_isRefused 382 = .ok (.ifCond .eq 12, 3) := by decide +kernel
theorem dL_isRefused_385 : decode cL_isRefused 385 = .ok (.iconst (-1), 1) := by decide +kernel
theorem dL_isRefused_386 : decode cL_isRefused 386 = .ok (.iload_n 2, 1) := by decide +kernel
theorem dL_isRefused_387 : decode cL_isRefused 387 = .ok (.bipush 30, 2) := by decide +kernel
theorem dL_isRefused_389 : decode cL_isRefused 389 = .ok (.irem, 1) := by decide +kernel
theorem dL_isRefused_390 : decode cL_isRefused 390 = .ok (.isub, 1) := by decide +kernel
theorem dL_isRefused_391 : decode cL_isRefused 391 = .ok (.goto 5, 3) := by decide +kernel
theorem dL_isRefused_394 : decode cL_isRefused 394 = .ok (.bipush 6, 2) := by decide +kernel
theorem dL_isRefused_396 : decode cL_isRefused 396 = .ok (.iconst 0, 1) := by decide +kernel
theorem dL_isRefused_397 : decode cL_isRefused 397 = .ok (.iconst 0, 1) := by decide +kernel
theorem dL_isRefused_398 : decode cL_isRefused 398 = .ok (.invokestatic 87, 3) := by decide +kernel
theorem dL_isRefused_401 : decode cL_isRefused 401 = .ok (.ldc 51, 2) := by decide +kernel
theorem dL_isRefused_403 : decode cL_isRefused 403 = .ok (.if_icmp .ne 97, 3) := by decide +kernel
theorem dL_isRefused_406 : decode cL_isRefused 406 = .ok (.aload_n 0, 1) := by decide +kernel
theorem dL_isRefused_407 : decode cL_isRefused 407 = .ok (.bipush 10, 2) := by decide +kernel
theorem dL_isRefused_409 : decode cL_isRefused 409 = .ok (.iload 4, 2) := by decide +kernel
theorem dL_isRefused_411 : decode cL_isRefused 411 = .ok (.iconst 0, 1) := by decide +kernel
theorem dL_isRefused_412 : decode cL_isRefused 412 = .ok (.iconst 0, 1) := by decide +kernel
theorem dL_isRefused_413 : decode cL_isRefused 413 = .ok (.invokestatic 87, 3) := by decide +kernel
theorem dL_isRefused_416 : decode cL_isRefused 416 = .ok (.ldc 51, 2) := by decide +kernel
theorem dL_isRefused_418 : decode cL_isRefused 418 = .ok (.if_icmp .ne 82, 3) := by decide +kernel
theorem dL_isRefused_421 : decode cL_isRefused 421 = .ok (.aload_n 0, 1) := by decide +kernel
theorem dL_isRefused_422 : decode cL_isRefused 422 = .ok (.iconst 0, 1) := by decide +kernel
theorem dL_isRefused_423 : decode cL_isRefused 423 = .ok (.iload 5, 2) := by decide +kernel
theorem dL_isRefused_425 : decode cL_isRefused 425 = .ok (.bipush 20, 2) := by decide +kernel
theorem dL_isRefused_427 : decode cL_isRefused 427 = .ok (.invokestatic 92, 3) := by decide +kernel
theorem dL_isRefused_430 : decode cL_isRefused 430 = .ok (.ldc2_w 69, 3) := by decide +kernel
theorem dL_isRefused_433 : decode cL_isRefused 433 = .ok (.lcmp, 1) := by decide +kernel
theorem dL_isRefused_434 : decode cL_isRefused 434 = .ok (.ifCond .ne 66, 3) := by decide +kernel
theorem dL_isRefused_437 : decode cL_isRefused 437 = .ok (.aload_n 0, 1) := by decide +kernel
theorem dL_isRefused_438 : decode cL_isRefused 438 = .ok (.iconst 0, 1) := by decide +kernel
theorem dL_isRefused_439 : decode cL_isRefused 439 = .ok (.iconst 0, 1) := by decide +kernel
theorem dL_isRefused_440 : decode cL_isRefused 440 = .ok (.iload_n 3, 1) := by decide +kernel
theorem dL_isRefused_441 : decode cL_isRefused 441 = .ok (.ifCond .eq 13, 3) := by decide +kernel
theorem dL_isRefused_444 : decode cL_isRefused 444 = .ok (.bipush 15, 2) := by decide +kernel
theorem dL_isRefused_446 : decode cL_isRefused 446 = .ok (.iload_n 2, 1) := by decide +kernel
theorem dL_isRefused_447 : decode cL_isRefused 447 = .ok (.bipush 30, 2) := by decide +kernel
theorem dL_isRefused_449 : decode cL_isRefused 449 = .ok (.irem, 1) := by decide +kernel
theorem dL_isRefused_450 : decode cL_isRefused 450 = .ok (.isub, 1) := by decide +kernel
theorem dL_isRefused_451 : decode cL_isRefused 451 = .ok (.goto 5, 3) := by decide +kernel
theorem dL_isRefused_454 : decode cL_isRefused 454 = .ok (.bipush 48, 2) := by decide +kernel
theorem dL_isRefused_456 : decode cL_isRefused 456 = .ok (.invokestatic 92, 3) := by decide +kernel
theorem dL_isRefused_459 : decode cL_isRefused 459 = .ok (.ldc2_w 69, 3) := by decide +kernel
theorem dL_isRefused_462 : decode cL_isRefused 462 = .ok (.lcmp, 1) := by decide +kernel
theorem dL_isRefused_463 : decode cL_isRefused 463 = .ok (.ifCond .ne 37, 3) := by decide +kernel
theorem dL_isRefused_466 : decode cL_isRefused 466 = .ok (.aload_n 0, 1) := by decide +kernel
theorem dL_isRefused_467 : decode cL_isRefused 467 = .ok (.iconst 1, 1) := by decide +kernel
theorem dL_isRefused_468 : decode cL_isRefused 468 = .ok (.iload 5, 2) := by decide +kernel
theorem dL_isRefused_470 : decode cL_isRefused 470 = .ok (.iconst 0, 1) := by decide +kernel
theorem dL_isRefused_471 : decode cL_isRefused 471 = .ok (.invokestatic 92, 3) := by decide +kernel
theorem dL_isRefused_474 : decode cL_isRefused 474 = .ok (.ldc2_w 69, 3) := by decide +kernel
theorem dL_isRefused_477 : decode cL_isRefused 477 = .ok (.lcmp, 1) := by decide +kernel
theorem dL_isRefused_478 : decode cL_isRefused 478 = .ok (.ifCond .ne 22, 3) := by decide +kernel
theorem dL_isRefused_481 : decode cL_isRefused 481 = .ok (.aload_n 0, 1) := by decide +kernel
theorem dL_isRefused_482 : decode cL_isRefused 482 = .ok (.iconst 2, 1) := by decide +kernel
theorem dL_isRefused_483 : decode cL_isRefused 483 = .ok (.iload 5, 2) := by decide +kernel
theorem dL_isRefused_485 : decode cL_isRefused 485 = .ok (.iconst 0, 1) := by decide +kernel
theorem dL_isRefused_486 : decode cL_isRefused 486 = .ok (.invokestatic 92, 3) := by decide +kernel
theorem dL_isRefused_489 : decode cL_isRefused 489 = .ok (.ldc2_w 69, 3) := by decide +kernel
theorem dL_isRefused_492 : decode cL_isRefused 492 = .ok (.lcmp, 1) := by decide +kernel
theorem dL_isRefused_493 : decode cL_isRefused 493 = .ok (.ifCond .ne 7, 3) := by decide +kernel
theorem dL_isRefused_496 : decode cL_isRefused 496 = .ok (.iconst 1, 1) := by decide +kernel
theorem dL_isRefused_497 : decode cL_isRefused 497 = .ok (.goto 4, 3) := by decide +kernel
theorem dL_isRefused_500 : decode cL_isRefused 500 = .ok (.iconst 0, 1) := by decide +kernel
theorem dL_isRefused_501 : decode cL_isRefused 501 = .ok (.istore 9, 2) := by decide +kernel
theorem dL_isRefused_503 : decode cL_isRefused 503 = .ok (.iconst 0, 1) := by decide +kernel
theorem dL_isRefused_504 : decode cL_isRefused 504 = .ok (.istore 10, 2) := by decide +kernel
theorem dL_isRefused_506 : decode cL_isRefused 506 = .ok (.iload 10, 2) := by decide +kernel
theorem dL_isRefused_508 : decode cL_isRefused 508 = .ok (.aload_n 1, 1) := by decide +kernel
theorem dL_isRefused_509 : decode cL_isRefused 509 = .ok (.iconst 1, 1) := by decide +kernel
theorem dL_isRefused_510 : decode cL_isRefused 510 = .ok (.iaload, 1) := by decide +kernel
theorem dL_isRefused_511 : decode cL_isRefused 511 = .ok (.if_icmp .ge 55, 3) := by decide +kernel
theorem dL_isRefused_514 : decode cL_isRefused 514 = .ok (.iload 9, 2) := by decide +kernel
theorem dL_isRefused_516 : decode cL_isRefused 516 = .ok (.ifCond .eq 50, 3) := by decide +kernel
theorem dL_isRefused_519 : decode cL_isRefused 519 = .ok (.aload_n 0, 1) := by decide +kernel
theorem dL_isRefused_520 : decode cL_isRefused 520 = .ok (.bipush 7, 2) := by decide +kernel
theorem dL_isRefused_522 : decode cL_isRefused 522 = .ok (.iload 10, 2) := by decide +kernel
theorem dL_isRefused_524 : decode cL_isRefused 524 = .ok (.iload_n 3, 1) := by decide +kernel
theorem dL_isRefused_525 : decode cL_isRefused 525 = .ok (.ifCond .eq 12, 3) := by decide +kernel
theorem dL_isRefused_528 : decode cL_isRefused 528 = .ok (.iconst (-1), 1) := by decide +kernel
theorem dL_isRefused_529 : decode cL_isRefused 529 = .ok (.iload_n 2, 1) := by decide +kernel
theorem dL_isRefused_530 : decode cL_isRefused 530 = .ok (.bipush 30, 2) := by decide +kernel
theorem dL_isRefused_532 : decode cL_isRefused 532 = .ok (.irem, 1) := by decide +kernel
theorem dL_isRefused_533 : decode cL_isRefused 533 = .ok (.isub, 1) := by decide +kernel
theorem dL_isRefused_534 : decode cL_isRefused 534 = .ok (.goto 10, 3) := by decide +kernel
theorem dL_isRefused_537 : decode cL_isRefused 537 = .ok (.bipush 64, 2) := by decide +kernel
theorem dL_isRefused_539 : decode cL_isRefused 539 = .ok (.iload_n 2, 1) := by decide +kernel
theorem dL_isRefused_540 : decode cL_isRefused 540 = .ok (.bipush 30, 2) := by decide +kernel
theorem dL_isRefused_542 : decode cL_isRefused 542 = .ok (.irem, 1) := by decide +kernel
theorem dL_isRefused_543 : decode cL_isRefused 543 = .ok (.iadd, 1) := by decide +kernel
theorem dL_isRefused_544 : decode cL_isRefused 544 = .ok (.iconst 0, 1) := by decide +kernel
theorem dL_isRefused_545 : decode cL_isRefused 545 = .ok (.invokestatic 87, 3) := by decide +kernel
theorem dL_isRefused_548 : decode cL_isRefused 548 = .ok (.ldc 51, 2) := by decide +kernel
theorem dL_isRefused_550 : decode cL_isRefused 550 = .ok (.if_icmp .ne 7, 3) := by decide +kernel
theorem dL_isRefused_553 : decode cL_isRefused 553 = .ok (.iconst 1, 1) := by decide +kernel
theorem dL_isRefused_554 : decode cL_isRefused 554 = .ok (.goto 4, 3) := by decide +kernel
theorem dL_isRefused_557 : decode cL_isRefused 557 = .ok (.iconst 0, 1) := by decide +kernel
theorem dL_isRefused_558 : decode cL_isRefused 558 = .ok (.istore 9, 2) := by decide +kernel
theorem dL_isRefused_560 : decode cL_isRefused 560 = .ok (.iinc 10 1, 3) := by decide +kernel
theorem dL_isRefused_563 : decode cL_isRefused 563 = .ok (.goto (-57), 3) := by decide +kernel
theorem dL_isRefused_566 : decode cL_isRefused 566 = .ok (.iload 9, 2) := by decide +kernel
theorem dL_isRefused_568 : decode cL_isRefused 568 = .ok (.ifCond .eq 60, 3) := by decide +kernel
theorem dL_isRefused_571 : decode cL_isRefused 571 = .ok (.aload_n 1, 1) := by decide +kernel
theorem dL_isRefused_572 : decode cL_isRefused 572 = .ok (.iconst 1, 1) := by decide +kernel
theorem dL_isRefused_573 : decode cL_isRefused 573 = .ok (.iaload, 1) := by decide +kernel
theorem dL_isRefused_574 : decode cL_isRefused 574 = .ok (.bipush 8, 2) := by decide +kernel
theorem dL_isRefused_576 : decode cL_isRefused 576 = .ok (.if_icmp .lt 17, 3) := by decide +kernel
theorem dL_isRefused_579 : decode cL_isRefused 579 = .ok (.aload_n 0, 1) := by decide +kernel
theorem dL_isRefused_580 : decode cL_isRefused 580 = .ok (.iconst 0, 1) := by decide +kernel
theorem dL_isRefused_581 : decode cL_isRefused 581 = .ok (.iconst 5, 1) := by decide +kernel
theorem dL_isRefused_582 : decode cL_isRefused 582 = .ok (.bipush 64, 2) := by decide +kernel
theorem dL_isRefused_584 : decode cL_isRefused 584 = .ok (.iconst 0, 1) := by decide +kernel
theorem dL_isRefused_585 : decode cL_isRefused 585 = .ok (.invokestatic 87, 3) := by decide +kernel
theorem dL_isRefused_588 : decode cL_isRefused 588 = .ok (.ldc 57, 2) := by decide +kernel
theorem dL_isRefused_590 : decode cL_isRefused 590 = .ok (.if_icmp .ne 38, 3) := by decide +kernel
theorem dL_isRefused_593 : decode cL_isRefused 593 = .ok (.aload_n 1, 1) := by decide +kernel
theorem dL_isRefused_594 : decode cL_isRefused 594 = .ok (.iconst 2, 1) := by decide +kernel
theorem dL_isRefused_595 : decode cL_isRefused 595 = .ok (.iaload, 1) := by decide +kernel
theorem dL_isRefused_596 : decode cL_isRefused 596 = .ok (.iconst 4, 1) := by decide +kernel
theorem dL_isRefused_597 : decode cL_isRefused 597 = .ok (.if_icmp .lt 16, 3) := by decide +kernel
theorem dL_isRefused_600 : decode cL_isRefused 600 = .ok (.aload_n 0, 1) := by decide +kernel
theorem dL_isRefused_601 : decode cL_isRefused 601 = .ok (.iconst 2, 1) := by decide +kernel
theorem dL_isRefused_602 : decode cL_isRefused 602 = .ok (.iconst 0, 1) := by decide +kernel
theorem dL_isRefused_603 : decode cL_isRefused 603 = .ok (.iconst 5, 1) := by decide +kernel
theorem dL_isRefused_604 : decode cL_isRefused 604 = .ok (.iconst 5, 1) := by decide +kernel
theorem dL_isRefused_605 : decode cL_isRefused 605 = .ok (.invokestatic 87, 3) := by decide +kernel
theorem dL_isRefused_608 : decode cL_isRefused 608 = .ok (.ldc 57, 2) := by decide +kernel
theorem dL_isRefused_610 : decode cL_isRefused 610 = .ok (.if_icmp .ne 18, 3) := by decide +kernel
theorem dL_isRefused_613 : decode cL_isRefused 613 = .ok (.aload_n 0, 1) := by decide +kernel
theorem dL_isRefused_614 : decode cL_isRefused 614 = .ok (.aload_n 1, 1) := by decide +kernel
theorem dL_isRefused_615 : decode cL_isRefused 615 = .ok (.invokestatic 81, 3) := by decide +kernel
theorem dL_isRefused_618 : decode cL_isRefused 618 = .ok (.lload 7, 2) := by decide +kernel
theorem dL_isRefused_620 : decode cL_isRefused 620 = .ok (.lcmp, 1) := by decide +kernel
theorem dL_isRefused_621 : decode cL_isRefused 621 = .ok (.ifCond .ne 7, 3) := by decide +kernel
theorem dL_isRefused_624 : decode cL_isRefused 624 = .ok (.iconst 1, 1) := by decide +kernel
theorem dL_isRefused_625 : decode cL_isRefused 625 = .ok (.goto 4, 3) := by decide +kernel
theorem dL_isRefused_628 : decode cL_isRefused 628 = .ok (.iconst 0, 1) := by decide +kernel
theorem dL_isRefused_629 : decode cL_isRefused 629 = .ok (.ireturn, 1) := by decide +kernel
theorem dL_areSound_0 : decode cL_areSound 0 = .ok (.aload_n 0, 1) := by decide +kernel
theorem dL_areSound_1 : decode cL_areSound 1 = .ok (.invokevirtual 71, 3) := by decide +kernel
theorem dL_areSound_4 : decode cL_areSound 4 = .ok (.aload_n 1, 1) := by decide +kernel
theorem dL_areSound_5 : decode cL_areSound 5 = .ok (.iconst 0, 1) := by decide +kernel
theorem dL_areSound_6 : decode cL_areSound 6 = .ok (.iaload, 1) := by decide +kernel
theorem dL_areSound_7 : decode cL_areSound 7 = .ok (.if_icmp .ne 7, 3) := by decide +kernel
theorem dL_areSound_10 : decode cL_areSound 10 = .ok (.iconst 1, 1) := by decide +kernel
theorem dL_areSound_11 : decode cL_areSound 11 = .ok (.goto 4, 3) := by decide +kernel
theorem dL_areSound_14 : decode cL_areSound 14 = .ok (.iconst 0, 1) := by decide +kernel
theorem dL_areSound_15 : decode cL_areSound 15 = .ok (.istore 5, 2) := by decide +kernel
theorem dL_areSound_17 : decode cL_areSound 17 = .ok (.iconst 0, 1) := by decide +kernel
theorem dL_areSound_18 : decode cL_areSound 18 = .ok (.istore 6, 2) := by decide +kernel
theorem dL_areSound_20 : decode cL_areSound 20 = .ok (.iconst 0, 1) := by decide +kernel
theorem dL_areSound_21 : decode cL_areSound 21 = .ok (.istore 7, 2) := by decide +kernel
theorem dL_areSound_23 : decode cL_areSound 23 = .ok (.iload 7, 2) := by decide +kernel
theorem dL_areSound_25 : decode cL_areSound 25 = .ok (.aload_n 1, 1) := by decide +kernel
theorem dL_areSound_26 : decode cL_areSound 26 = .ok (.iconst 1, 1) := by decide +kernel
theorem dL_areSound_27 : decode cL_areSound 27 = .ok (.iaload, 1) := by decide +kernel
theorem dL_areSound_28 : decode cL_areSound 28 = .ok (.if_icmp .ge 134, 3) := by decide +kernel
theorem dL_areSound_31 : decode cL_areSound 31 = .ok (.iload 5, 2) := by decide +kernel
theorem dL_areSound_33 : decode cL_areSound 33 = .ok (.ifCond .eq 129, 3) := by decide +kernel
theorem dL_areSound_36 : decode cL_areSound 36 = .ok (.aload_n 0, 1) := by decide +kernel
theorem dL_areSound_37 : decode cL_areSound 37 = .ok (.iload 7, 2) := by decide +kernel
theorem dL_areSound_39 : decode cL_areSound 39 = .ok (.iconst 0, 1) := by decide +kernel
theorem dL_areSound_40 : decode cL_areSound 40 = .ok (.invokevirtual 45, 3) := by decide +kernel
theorem dL_areSound_43 : decode cL_areSound 43 = .ok (.istore 8, 2) := by decide +kernel
theorem dL_areSound_45 : decode cL_areSound 45 = .ok (.aload_n 0, 1) := by decide +kernel
theorem dL_areSound_46 : decode cL_areSound 46 = .ok (.iload 7, 2) := by decide +kernel
theorem dL_areSound_48 : decode cL_areSound 48 = .ok (.iconst 1, 1) := by decide +kernel
theorem dL_areSound_49 : decode cL_areSound 49 = .ok (.invokevirtual 45, 3) := by decide +kernel
theorem dL_areSound_52 : decode cL_areSound 52 = .ok (.istore 9, 2) := by decide +kernel
theorem dL_areSound_54 : decode cL_areSound 54 = .ok (.iload_n 3, 1) := by decide +kernel
theorem dL_areSound_55 : decode cL_areSound 55 = .ok (.bipush 64, 2) := by decide +kernel
theorem dL_areSound_57 : decode cL_areSound 57 = .ok (.irem, 1) := by decide +kernel
theorem dL_areSound_58 : decode cL_areSound 58 = .ok (.istore 10, 2) := by decide +kernel
theorem dL_areSound_60 : decode cL_areSound 60 = .ok (.aload_n 0, 1) := by decide +kernel
theorem dL_areSound_61 : decode cL_areSound 61 = .ok (.iload 7, 2) := by decide +kernel
theorem dL_areSound_63 : decode cL_areSound 63 = .ok (.iload 10, 2) := by decide +kernel
theorem dL_areSound_65 : decode cL_areSound 65 = .ok (.invokevirtual 36, 3) := by decide +kernel
theorem dL_areSound_68 : decode cL_areSound 68 = .ok (.istore 11, 2) := by decide +kernel
theorem dL_areSound_70 : decode cL_areSound 70 = .ok (.iload 6, 2) := by decide +kernel
theorem dL_areSound_72 : decode cL_areSound 72 = .ok (.aload_n 2, 1) := by decide +kernel
theorem dL_areSound_73 : decode cL_areSound 73 = .ok (.iconst 2, 1) := by decide +kernel
