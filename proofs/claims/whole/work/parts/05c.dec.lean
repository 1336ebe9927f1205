theorem dX5_wave_2 : decode cX5_wave 2 = .ok (.getfield 38, 3) := by decide +kernel
theorem dX5_wave_5 : decode cX5_wave 5 = .ok (.iload_n 1, 1) := by decide +kernel
theorem dX5_wave_6 : decode cX5_wave 6 = .ok (.iaload, 1) := by decide +kernel
theorem dX5_wave_7 : decode cX5_wave 7 = .ok (.irem, 1) := by decide +kernel
theorem dX5_wave_8 : decode cX5_wave 8 = .ok (.istore_n 3, 1) := by decide +kernel
theorem dX5_wave_9 : decode cX5_wave 9 = .ok (.iload_n 3, 1) := by decide +kernel
theorem dX5_wave_10 : decode cX5_wave 10 = .ok (.iload_n 3, 1) := by decide +kernel
theorem dX5_wave_11 : decode cX5_wave 11 = .ok (.ifCond .ge 12, 3) := by decide +kernel
theorem dX5_wave_14 : decode cX5_wave 14 = .ok (.aload_n 0, 1) := by decide +kernel
theorem dX5_wave_15 : decode cX5_wave 15 = .ok (.getfield 38, 3) := by decide +kernel
theorem dX5_wave_18 : decode cX5_wave 18 = .ok (.iload_n 1, 1) := by decide +kernel
theorem dX5_wave_19 : decode cX5_wave 19 = .ok (.iaload, 1) := by decide +kernel
theorem dX5_wave_20 : decode cX5_wave 20 = .ok (.goto 4, 3) := by decide +kernel
theorem dX5_wave_23 : decode cX5_wave 23 = .ok (.iconst 0, 1) := by decide +kernel
theorem dX5_wave_24 : decode cX5_wave 24 = .ok (.iadd, 1) := by decide +kernel
theorem dX5_wave_25 : decode cX5_wave 25 = .ok (.istore_n 3, 1) := by decide +kernel
theorem dX5_wave_26 : decode cX5_wave 26 = .ok (.iload_n 3, 1) := by decide +kernel
theorem dX5_wave_27 : decode cX5_wave 27 = .ok (.aload_n 0, 1) := by decide +kernel
theorem dX5_wave_28 : decode cX5_wave 28 = .ok (.getfield 38, 3) := by decide +kernel
theorem dX5_wave_31 : decode cX5_wave 31 = .ok (.iload_n 1, 1) := by decide +kernel
theorem dX5_wave_32 : decode cX5_wave 32 = .ok (.iaload, 1) := by decide +kernel
theorem dX5_wave_33 : decode cX5_wave 33 = .ok (.iconst 2, 1) := by decide +kernel
theorem dX5_wave_34 : decode cX5_wave 34 = .ok (.idiv, 1) := by decide +kernel
theorem dX5_wave_35 : decode cX5_wave 35 = .ok (.if_icmp .ge 12, 3) := by decide +kernel
theorem dX5_wave_38 : decode cX5_wave 38 = .ok (.aload_n 0, 1) := by decide +kernel
theorem dX5_wave_39 : decode cX5_wave 39 = .ok (.getfield 35, 3) := by decide +kernel
theorem dX5_wave_42 : decode cX5_wave 42 = .ok (.iload_n 1, 1) := by decide +kernel
theorem dX5_wave_43 : decode cX5_wave 43 = .ok (.iaload, 1) := by decide +kernel
theorem dX5_wave_44 : decode cX5_wave 44 = .ok (.goto 10, 3) := by decide +kernel
theorem dX5_wave_47 : decode cX5_wave 47 = .ok (.aload_n 0, 1) := by decide +kernel
theorem dX5_wave_48 : decode cX5_wave 48 = .ok (.getfield 35, 3) := by decide +kernel
theorem dX5_wave_51 : decode cX5_wave 51 = .ok (.iload_n 1, 1) := by decide +kernel
theorem dX5_wave_52 : decode cX5_wave 52 = .ok (.iaload, 1) := by decide +kernel
theorem dX5_wave_53 : decode cX5_wave 53 = .ok (.ineg, 1) := by decide +kernel
theorem dX5_wave_54 : decode cX5_wave 54 = .ok (.ireturn, 1) := by decide +kernel
theorem dX5_hears_0 : decode cX5_hears 0 = .ok (.iconst 0, 1) := by decide +kernel
theorem dX5_hears_1 : decode cX5_hears 1 = .ok (.istore_n 2, 1) := by decide +kernel
theorem dX5_hears_2 : decode cX5_hears 2 = .ok (.iconst 0, 1) := by decide +kernel
theorem dX5_hears_3 : decode cX5_hears 3 = .ok (.istore_n 3, 1) := by decide +kernel
theorem dX5_hears_4 : decode cX5_hears 4 = .ok (.iload_n 3, 1) := by decide +kernel
theorem dX5_hears_5 : decode cX5_hears 5 = .ok (.aload_n 0, 1) := by decide +kernel
theorem dX5_hears_6 : decode cX5_hears 6 = .ok (.getfield 87, 3) := by decide +kernel
theorem dX5_hears_9 : decode cX5_hears 9 = .ok (.if_icmp .ge 40, 3) := by decide +kernel
theorem dX5_hears_12 : decode cX5_hears 12 = .ok (.iload_n 2, 1) := by decide +kernel
theorem dX5_hears_13 : decode cX5_hears 13 = .ok (.aload_n 0, 1) := by decide +kernel
theorem dX5_hears_14 : decode cX5_hears 14 = .ok (.iload_n 3, 1) := by decide +kernel
theorem dX5_hears_15 : decode cX5_hears 15 = .ok (.aload_n 0, 1) := by decide +kernel
theorem dX5_hears_16 : decode cX5_hears 16 = .ok (.getfield 78, 3) := by decide +kernel
theorem dX5_hears_19 : decode cX5_hears 19 = .ok (.aload_n 0, 1) := by decide +kernel
theorem dX5_hears_20 : decode cX5_hears 20 = .ok (.iload_n 1, 1) := by decide +kernel
theorem dX5_hears_21 : decode cX5_hears 21 = .ok (.aload_n 0, 1) := by decide +kernel
theorem dX5_hears_22 : decode cX5_hears 22 = .ok (.getfield 32, 3) := by decide +kernel
theorem dX5_hears_25 : decode cX5_hears 25 = .ok (.iload_n 3, 1) := by decide +kernel
theorem dX5_hears_26 : decode cX5_hears 26 = .ok (.iaload, 1) := by decide +kernel
theorem dX5_hears_27 : decode cX5_hears 27 = .ok (.invokevirtual 94, 3) := by decide +kernel
theorem dX5_hears_30 : decode cX5_hears 30 = .ok (.isub, 1) := by decide +kernel
theorem dX5_hears_31 : decode cX5_hears 31 = .ok (.aload_n 0, 1) := by decide +kernel
theorem dX5_hears_32 : decode cX5_hears 32 = .ok (.getfield 16, 3) := by decide +kernel
theorem dX5_hears_35 : decode cX5_hears 35 = .ok (.iload_n 1, 1) := by decide +kernel
theorem dX5_hears_36 : decode cX5_hears 36 = .ok (.iaload, 1) := by decide +kernel
theorem dX5_hears_37 : decode cX5_hears 37 = .ok (.isub, 1) := by decide +kernel
theorem dX5_hears_38 : decode cX5_hears 38 = .ok (.invokevirtual 98, 3) := by decide +kernel
theorem dX5_hears_41 : decode cX5_hears 41 = .ok (.iadd, 1) := by decide +kernel
theorem dX5_hears_42 : decode cX5_hears 42 = .ok (.istore_n 2, 1) := by decide +kernel
theorem dX5_hears_43 : decode cX5_hears 43 = .ok (.iinc 3 1, 3) := by decide +kernel
theorem dX5_hears_46 : decode cX5_hears 46 = .ok (.goto (-42), 3) := by decide +kernel
theorem dX5_hears_49 : decode cX5_hears 49 = .ok (.aload_n 0, 1) := by decide +kernel
theorem dX5_hears_50 : decode cX5_hears 50 = .ok (.bipush 75, 2) := by decide +kernel
theorem dX5_hears_52 : decode cX5_hears 52 = .ok (.aload_n 0, 1) := by decide +kernel
theorem dX5_hears_53 : decode cX5_hears 53 = .ok (.getfield 54, 3) := by decide +kernel
theorem dX5_hears_56 : decode cX5_hears 56 = .ok (.imul, 1) := by decide +kernel
theorem dX5_hears_57 : decode cX5_hears 57 = .ok (.bipush 74, 2) := by decide +kernel
theorem dX5_hears_59 : decode cX5_hears 59 = .ok (.iadd, 1) := by decide +kernel
theorem dX5_hears_60 : decode cX5_hears 60 = .ok (.ldc 101, 2) := by decide +kernel
theorem dX5_hears_62 : decode cX5_hears 62 = .ok (.irem, 1) := by decide +kernel
theorem dX5_hears_63 : decode cX5_hears 63 = .ok (.putfield 54, 3) := by decide +kernel
theorem dX5_hears_66 : decode cX5_hears 66 = .ok (.aload_n 0, 1) := by decide +kernel
theorem dX5_hears_67 : decode cX5_hears 67 = .ok (.getfield 54, 3) := by decide +kernel
theorem dX5_hears_70 : decode cX5_hears 70 = .ok (.iconst 2, 1) := by decide +kernel
theorem dX5_hears_71 : decode cX5_hears 71 = .ok (.aload_n 0, 1) := by decide +kernel
theorem dX5_hears_72 : decode cX5_hears 72 = .ok (.getfield 91, 3) := by decide +kernel
theorem dX5_hears_75 : decode cX5_hears 75 = .ok (.imul, 1) := by decide +kernel
theorem dX5_hears_76 : decode cX5_hears 76 = .ok (.iconst 1, 1) := by decide +kernel
theorem dX5_hears_77 : decode cX5_hears 77 = .ok (.iadd, 1) := by decide +kernel
theorem dX5_hears_78 : decode cX5_hears 78 = .ok (.irem, 1) := by decide +kernel
theorem dX5_hears_79 : decode cX5_hears 79 = .ok (.aload_n 0, 1) := by decide +kernel
theorem dX5_hears_80 : decode cX5_hears 80 = .ok (.getfield 91, 3) := by decide +kernel
theorem dX5_hears_83 : decode cX5_hears 83 = .ok (.isub, 1) := by decide +kernel
theorem dX5_hears_84 : decode cX5_hears 84 = .ok (.istore_n 3, 1) := by decide +kernel
theorem dX5_hears_85 : decode cX5_hears 85 = .ok (.iload_n 2, 1) := by decide +kernel
theorem dX5_hears_86 : decode cX5_hears 86 = .ok (.i2l, 1) := by decide +kernel
theorem dX5_hears_87 : decode cX5_hears 87 = .ok (.aload_n 0, 1) := by decide +kernel
theorem dX5_hears_88 : decode cX5_hears 88 = .ok (.getfield 13, 3) := by decide +kernel
theorem dX5_hears_91 : decode cX5_hears 91 = .ok (.iload_n 1, 1) := by decide +kernel
theorem dX5_hears_92 : decode cX5_hears 92 = .ok (.iaload, 1) := by decide +kernel
theorem dX5_hears_93 : decode cX5_hears 93 = .ok (.i2l, 1) := by decide +kernel
theorem dX5_hears_94 : decode cX5_hears 94 = .ok (.lmul, 1) := by decide +kernel
theorem dX5_hears_95 : decode cX5_hears 95 = .ok (.ldc2_w 102, 3) := by decide +kernel
theorem dX5_hears_98 : decode cX5_hears 98 = .ok (.invokestatic 70, 3) := by decide +kernel
theorem dX5_hears_101 : decode cX5_hears 101 = .ok (.l2i, 1) := by decide +kernel
theorem dX5_hears_102 : decode cX5_hears 102 = .ok (.iload_n 3, 1) := by decide +kernel
theorem dX5_hears_103 : decode cX5_hears 103 = .ok (.iadd, 1) := by decide +kernel
theorem dX5_hears_104 : decode cX5_hears 104 = .ok (.istore 4, 2) := by decide +kernel
theorem dX5_hears_106 : decode cX5_hears 106 = .ok (.aload_n 0, 1) := by decide +kernel
theorem dX5_hears_107 : decode cX5_hears 107 = .ok (.getfield 41, 3) := by decide +kernel
theorem dX5_hears_110 : decode cX5_hears 110 = .ok (.bipush 64, 2) := by decide +kernel
theorem dX5_hears_112 : decode cX5_hears 112 = .ok (.iload_n 1, 1) := by decide +kernel
theorem dX5_hears_113 : decode cX5_hears 113 = .ok (.imul, 1) := by decide +kernel
theorem dX5_hears_114 : decode cX5_hears 114 = .ok (.aload_n 0, 1) := by decide +kernel
theorem dX5_hears_115 : decode cX5_hears 115 = .ok (.getfield 78, 3) := by decide +kernel
theorem dX5_hears_118 : decode cX5_hears 118 = .ok (.bipush 64, 2) := by decide +kernel
theorem dX5_hears_120 : decode cX5_hears 120 = .ok (.irem, 1) := by decide +kernel
theorem dX5_hears_121 : decode cX5_hears 121 = .ok (.iadd, 1) := by decide +kernel
theorem dX5_hears_122 : decode cX5_hears 122 = .ok (.aload_n 0, 1) := by decide +kernel
theorem dX5_hears_123 : decode cX5_hears 123 = .ok (.getfield 22, 3) := by decide +kernel
theorem dX5_hears_126 : decode cX5_hears 126 = .ok (.iload_n 1, 1) := by decide +kernel
theorem dX5_hears_127 : decode cX5_hears 127 = .ok (.baload, 1) := by decide +kernel
theorem dX5_hears_128 : decode cX5_hears 128 = .ok (.ifCond .eq 8, 3) := by decide +kernel
theorem dX5_hears_131 : decode cX5_hears 131 = .ok (.iload 4, 2) := by decide +kernel
theorem dX5_hears_133 : decode cX5_hears 133 = .ok (.goto 4, 3) := by decide +kernel
theorem dX5_hears_136 : decode cX5_hears 136 = .ok (.iconst 0, 1) := by decide +kernel
theorem dX5_hears_137 : decode cX5_hears 137 = .ok (.iastore, 1) := by decide +kernel
theorem dX5_hears_138 : decode cX5_hears 138 = .ok (.return_, 1) := by decide +kernel
theorem dX5_hear_0 : decode cX5_hear 0 = .ok (.aload_n 0, 1) := by decide +kernel
theorem dX5_hear_1 : decode cX5_hear 1 = .ok (.iload_n 1, 1) := by decide +kernel
theorem dX5_hear_2 : decode cX5_hear 2 = .ok (.iconst 1, 1) := by decide +kernel
theorem dX5_hear_3 : decode cX5_hear 3 = .ok (.bipush 100, 2) := by decide +kernel
theorem dX5_hear_5 : decode cX5_hear 5 = .ok (.invokestatic 64, 3) := by decide +kernel
theorem dX5_hear_8 : decode cX5_hear 8 = .ok (.ifCond .eq 7, 3) := by decide +kernel
theorem dX5_hear_11 : decode cX5_hear 11 = .ok (.iconst 0, 1) := by decide +kernel
theorem dX5_hear_12 : decode cX5_hear 12 = .ok (.goto 4, 3) := by decide +kernel
theorem dX5_hear_15 : decode cX5_hear 15 = .ok (.iconst 1, 1) := by decide +kernel
theorem dX5_hear_16 : decode cX5_hear 16 = .ok (.invokevirtual 74, 3) := by decide +kernel
theorem dX5_hear_19 : decode cX5_hear 19 = .ok (.ifCond .ne 5, 3) := by decide +kernel
theorem dX5_hear_22 : decode cX5_hear 22 = .ok (.iconst 0, 1) := by decide +kernel
theorem dX5_hear_23 : decode cX5_hear 23 = .ok (.ireturn, 1) := by decide +kernel
theorem dX5_hear_24 : decode cX5_hear 24 = .ok (.iconst 0, 1) := by decide +kernel
theorem dX5_hear_25 : decode cX5_hear 25 = .ok (.istore_n 2, 1) := by decide +kernel
theorem dX5_hear_26 : decode cX5_hear 26 = .ok (.iload_n 2, 1) := by decide +kernel
theorem dX5_hear_27 : decode cX5_hear 27 = .ok (.iload_n 1, 1) := by decide +kernel
theorem dX5_hear_28 : decode cX5_hear 28 = .ok (.if_icmp .ge 40, 3) := by decide +kernel
theorem dX5_hear_31 : decode cX5_hear 31 = .ok (.iconst 0, 1) := by decide +kernel
theorem dX5_hear_32 : decode cX5_hear 32 = .ok (.istore_n 3, 1) := by decide +kernel
theorem dX5_hear_33 : decode cX5_hear 33 = .ok (.iload_n 3, 1) := by decide +kernel
theorem dX5_hear_34 : decode cX5_hear 34 = .ok (.aload_n 0, 1) := by decide +kernel
theorem dX5_hear_35 : decode cX5_hear 35 = .ok (.getfield 61, 3) := by decide +kernel
theorem dX5_hear_38 : decode cX5_hear 38 = .ok (.if_icmp .ge 14, 3) := by decide +kernel
theorem dX5_hear_41 : decode cX5_hear 41 = .ok (.aload_n 0, 1) := by decide +kernel
theorem dX5_hear_42 : decode cX5_hear 42 = .ok (.iload_n 3, 1) := by decide +kernel
theorem dX5_hear_43 : decode cX5_hear 43 = .ok (.invokevirtual 104, 3) := by decide +kernel
theorem dX5_hear_46 : decode cX5_hear 46 = .ok (.iinc 3 1, 3) := by decide +kernel
theorem dX5_hear_49 : decode cX5_hear 49 = .ok (.goto (-16), 3) := by decide +kernel
theorem dX5_hear_52 : decode cX5_hear 52 = .ok (.aload_n 0, 1) := by decide +kernel
theorem dX5_hear_53 : decode cX5_hear 53 = .ok (.dup, 1) := by decide +kernel
theorem dX5_hear_54 : decode cX5_hear 54 = .ok (.getfield 78, 3) := by decide +kernel
theorem dX5_hear_57 : decode cX5_hear 57 = .ok (.iconst 1, 1) := by decide +kernel
theorem dX5_hear_58 : decode cX5_hear 58 = .ok (.iadd, 1) := by decide +kernel
theorem dX5_hear_59 : decode cX5_hear 59 = .ok (.putfield 78, 3) := by decide +kernel
theorem dX5_hear_62 : decode cX5_hear 62 = .ok (.iinc 2 1, 3) := by decide +kernel
theorem dX5_hear_65 : decode cX5_hear 65 = .ok (.goto (-39), 3) := by decide +kernel
theorem dX5_hear_68 : decode cX5_hear 68 = .ok (.aload_n 0, 1) := by decide +kernel
theorem dX5_hear_69 : decode cX5_hear 69 = .ok (.getfield 78, 3) := by decide +kernel
theorem dX5_hear_72 : decode cX5_hear 72 = .ok (.ireturn, 1) := by decide +kernel
theorem dX5_window_0 : decode cX5_window 0 = .ok (.aload_n 0, 1) := by decide +kernel
theorem dX5_window_1 : decode cX5_window 1 = .ok (.iload_n 1, 1) := by decide +kernel
theorem dX5_window_2 : decode cX5_window 2 = .ok (.iconst 0, 1) := by decide +kernel
theorem dX5_window_3 : decode cX5_window 3 = .ok (.iconst 2, 1) := by decide +kernel
theorem dX5_window_4 : decode cX5_window 4 = .ok (.invokestatic 64, 3) := by decide +kernel
theorem dX5_window_7 : decode cX5_window 7 = .ok (.ifCond .eq 7, 3) := by decide +kernel
theorem dX5_window_10 : decode cX5_window 10 = .ok (.iconst 0, 1) := by decide +kernel
theorem dX5_window_11 : decode cX5_window 11 = .ok (.goto 4, 3) := by decide +kernel
theorem dX5_window_14 : decode cX5_window 14 = .ok (.iconst 1, 1) := by decide +kernel
theorem dX5_window_15 : decode cX5_window 15 = .ok (.invokevirtual 74, 3) := by decide +kernel
theorem dX5_window_18 : decode cX5_window 18 = .ok (.ifCond .ne 5, 3) := by decide +kernel
theorem dX5_window_21 : decode cX5_window 21 = .ok (.iconst 0, 1) := by decide +kernel
theorem dX5_window_22 : decode cX5_window 22 = .ok (.ireturn, 1) := by decide +kernel
theorem dX5_window_23 : decode cX5_window 23 = .ok (.aload_n 0, 1) := by decide +kernel
theorem dX5_window_24 : decode cX5_window 24 = .ok (.getfield 108, 3) := by decide +kernel
theorem dX5_window_27 : decode cX5_window 27 = .ok (.istore_n 2, 1) := by decide +kernel
theorem dX5_window_28 : decode cX5_window 28 = .ok (.aload_n 0, 1) := by decide +kernel
theorem dX5_window_29 : decode cX5_window 29 = .ok (.iload_n 1, 1) := by decide +kernel
theorem dX5_window_30 : decode cX5_window 30 = .ok (.putfield 108, 3) := by decide +kernel
theorem dX5_window_33 : decode cX5_window 33 = .ok (.iload_n 2, 1) := by decide +kernel
theorem dX5_window_34 : decode cX5_window 34 = .ok (.ireturn, 1) := by decide +kernel
theorem dX5_isKept_0 : decode cX5_isKept 0 = .ok (.iload_n 2, 1) := by decide +kernel
theorem dX5_isKept_1 : decode cX5_isKept 1 = .ok (.aload_n 0, 1) := by decide +kernel
theorem dX5_isKept_2 : decode cX5_isKept 2 = .ok (.getfield 19, 3) := by decide +kernel
theorem dX5_isKept_5 : decode cX5_isKept 5 = .ok (.iload_n 1, 1) := by decide +kernel
theorem dX5_isKept_6 : decode cX5_isKept 6 = .ok (.iaload, 1) := by decide +kernel
theorem dX5_isKept_7 : decode cX5_isKept 7 = .ok (.if_icmp .lt 31, 3) := by decide +kernel
theorem dX5_isKept_10 : decode cX5_isKept 10 = .ok (.iload_n 2, 1) := by decide +kernel
theorem dX5_isKept_11 : decode cX5_isKept 11 = .ok (.aload_n 0, 1) := by decide +kernel
theorem dX5_isKept_12 : decode cX5_isKept 12 = .ok (.getfield 78, 3) := by decide +kernel
theorem dX5_isKept_15 : decode cX5_isKept 15 = .ok (.bipush 64, 2) := by decide +kernel
theorem dX5_isKept_17 : decode cX5_isKept 17 = .ok (.isub, 1) := by decide +kernel
theorem dX5_isKept_18 : decode cX5_isKept 18 = .ok (.aload_n 0, 1) := by decide +kernel
theorem dX5_isKept_19 : decode cX5_isKept 19 = .ok (.getfield 78, 3) := by decide +kernel
theorem dX5_isKept_22 : decode cX5_isKept 22 = .ok (.iconst 1, 1) := by decide +kernel
theorem dX5_isKept_23 : decode cX5_isKept 23 = .ok (.isub, 1) := by decide +kernel
theorem dX5_isKept_24 : decode cX5_isKept 24 = .ok (.invokestatic 64, 3) := by decide +kernel
theorem dX5_isKept_27 : decode cX5_isKept 27 = .ok (.ifCond .eq 11, 3) := by decide +kernel
theorem dX5_isKept_30 : decode cX5_isKept 30 = .ok (.iload_n 2, 1) := by decide +kernel
theorem dX5_isKept_31 : decode cX5_isKept 31 = .ok (.ifCond .lt 7, 3) := by decide +kernel
theorem dX5_isKept_34 : decode cX5_isKept 34 = .ok (.iconst 1, 1) := by decide +kernel
theorem dX5_isKept_35 : decode cX5_isKept 35 = .ok (.goto 4, 3) := by decide +kernel
theorem dX5_isKept_38 : decode cX5_isKept 38 = .ok (.iconst 0, 1) := by decide +kernel
theorem dX5_isKept_39 : decode cX5_isKept 39 = .ok (.ireturn, 1) := by decide +kernel
theorem dX5_kept_0 : decode cX5_kept 0 = .ok (.aload_n 0, 1) := by decide +kernel
theorem dX5_kept_1 : decode cX5_kept 1 = .ok (.iload_n 2, 1) := by decide +kernel
theorem dX5_kept_2 : decode cX5_kept 2 = .ok (.iload_n 3, 1) := by decide +kernel
theorem dX5_kept_3 : decode cX5_kept 3 = .ok (.invokevirtual 111, 3) := by decide +kernel
theorem dX5_kept_6 : decode cX5_kept 6 = .ok (.ifCond .eq 17, 3) := by decide +kernel
theorem dX5_kept_9 : decode cX5_kept 9 = .ok (.aload_n 1, 1) := by decide +kernel
theorem dX5_kept_10 : decode cX5_kept 10 = .ok (.bipush 64, 2) := by decide +kernel
theorem dX5_kept_12 : decode cX5_kept 12 = .ok (.iload_n 2, 1) := by decide +kernel
theorem dX5_kept_13 : decode cX5_kept 13 = .ok (.imul, 1) := by decide +kernel
theorem dX5_kept_14 : decode cX5_kept 14 = .ok (.iload_n 3, 1) := by decide +kernel
theorem dX5_kept_15 : decode cX5_kept 15 = .ok (.bipush 64, 2) := by decide +kernel
theorem dX5_kept_17 : decode cX5_kept 17 = .ok (.irem, 1) := by decide +kernel
theorem dX5_kept_18 : decode cX5_kept 18 = .ok (.iadd, 1) := by decide +kernel
theorem dX5_kept_19 : decode cX5_kept 19 = .ok (.iaload, 1) := by decide +kernel
theorem dX5_kept_20 : decode cX5_kept 20 = .ok (.goto 4, 3) := by decide +kernel
theorem dX5_kept_23 : decode cX5_kept 23 = .ok (.iconst 0, 1) := by decide +kernel
theorem dX5_kept_24 : decode cX5_kept 24 = .ok (.ireturn, 1) := by decide +kernel
theorem dX5_weight_0 : decode cX5_weight 0 = .ok (.iconst 0, 1) := by decide +kernel
theorem dX5_weight_1 : decode cX5_weight 1 = .ok (.istore_n 2, 1) := by decide +kernel
theorem dX5_weight_2 : decode cX5_weight 2 = .ok (.iconst 0, 1) := by decide +kernel
theorem dX5_weight_3 : decode cX5_weight 3 = .ok (.istore_n 3, 1) := by decide +kernel
theorem dX5_weight_4 : decode cX5_weight 4 = .ok (.iconst 0, 1) := by decide +kernel
theorem dX5_weight_5 : decode cX5_weight 5 = .ok (.istore 4, 2) := by decide +kernel
theorem dX5_weight_7 : decode cX5_weight 7 = .ok (.iload 4, 2) := by decide +kernel
theorem dX5_weight_9 : decode cX5_weight 9 = .ok (.aload_n 0, 1) := by decide +kernel
theorem dX5_weight_10 : decode cX5_weight 10 = .ok (.getfield 61, 3) := by decide +kernel
theorem dX5_weight_13 : decode cX5_weight 13 = .ok (.if_icmp .ge 57, 3) := by decide +kernel
theorem dX5_weight_16 : decode cX5_weight 16 = .ok (.iload_n 2, 1) := by decide +kernel
theorem dX5_weight_17 : decode cX5_weight 17 = .ok (.aload_n 0, 1) := by decide +kernel
theorem dX5_weight_18 : decode cX5_weight 18 = .ok (.getfield 22, 3) := by decide +kernel
theorem dX5_weight_21 : decode cX5_weight 21 = .ok (.iload 4, 2) := by decide +kernel
theorem dX5_weight_23 : decode cX5_weight 23 = .ok (.baload, 1) := by decide +kernel
theorem dX5_weight_24 : decode cX5_weight 24 = .ok (.ifCond .eq 13, 3) := by decide +kernel
theorem dX5_weight_27 : decode cX5_weight 27 = .ok (.iload 4, 2) := by decide +kernel
theorem dX5_weight_29 : decode cX5_weight 29 = .ok (.iload_n 1, 1) := by decide +kernel
theorem dX5_weight_30 : decode cX5_weight 30 = .ok (.if_icmp .ge 7, 3) := by decide +kernel
theorem dX5_weight_33 : decode cX5_weight 33 = .ok (.iconst 1, 1) := by decide +kernel
theorem dX5_weight_34 : decode cX5_weight 34 = .ok (.goto 4, 3) := by decide +kernel
theorem dX5_weight_37 : decode cX5_weight 37 = .ok (.iconst 0, 1) := by decide +kernel
theorem dX5_weight_38 : decode cX5_weight 38 = .ok (.iadd, 1) := by decide +kernel
theorem dX5_weight_39 : decode cX5_weight 39 = .ok (.istore_n 2, 1) := by decide +kernel
theorem dX5_weight_40 : decode cX5_weight 40 = .ok (.iload_n 3, 1) := by decide +kernel
theorem dX5_weight_41 : decode cX5_weight 41 = .ok (.aload_n 0, 1) := by decide +kernel
theorem dX5_weight_42 : decode cX5_weight 42 = .ok (.getfield 22, 3) := by decide +kernel
theorem dX5_weight_45 : decode cX5_weight 45 = .ok (.iload 4, 2) := by decide +kernel
theorem dX5_weight_47 : decode cX5_weight 47 = .ok (.baload, 1) := by decide +kernel
theorem dX5_weight_48 : decode cX5_weight 48 = .ok (.ifCond .eq 13, 3) := by decide +kernel
theorem dX5_weight_51 : decode cX5_weight 51 = .ok (.iload 4, 2) := by decide +kernel
theorem dX5_weight_53 : decode cX5_weight 53 = .ok (.iload_n 1, 1) := by decide +kernel
theorem dX5_weight_54 : decode cX5_weight 54 = .ok (.if_icmp .le 7, 3) := by decide +kernel
theorem dX5_weight_57 : decode cX5_weight 57 = .ok (.iconst 1, 1) := by decide +kernel
theorem dX5_weight_58 : decode cX5_weight 58 = .ok (.goto 4, 3) := by decide +kernel
theorem dX5_weight_61 : decode cX5_weight 61 = .ok (.iconst 0, 1) := by decide +kernel
theorem dX5_weight_62 : decode cX5_weight 62 = .ok (.iadd, 1) := by decide +kernel
theorem dX5_weight_63 : decode cX5_weight 63 = .ok (.istore_n 3, 1) := by decide +kernel
theorem dX5_weight_64 : decode cX5_weight 64 = .ok (.iinc 4 1, 3) := by decide +kernel
theorem dX5_weight_67 : decode cX5_weight 67 = .ok (.goto (-60), 3) := by decide +kernel
theorem dX5_weight_70 : decode cX5_weight 70 = .ok (.iload_n 2, 1) := by decide +kernel
theorem dX5_weight_71 : decode cX5_weight 71 = .ok (.iload_n 3, 1) := by decide +kernel
theorem dX5_weight_72 : decode cX5_weight 72 = .ok (.if_icmp .ge 7, 3) := by decide +kernel
theorem dX5_weight_75 : decode cX5_weight 75 = .ok (.iload_n 2, 1) := by decide +kernel
theorem dX5_weight_76 : decode cX5_weight 76 = .ok (.goto 4, 3) := by decide +kernel
theorem dX5_weight_79 : decode cX5_weight 79 = .ok (.iload_n 3, 1) := by decide +kernel
theorem dX5_weight_80 : decode cX5_weight 80 = .ok (.istore 4, 2) := by decide +kernel
theorem dX5_weight_82 : decode cX5_weight 82 = .ok (.aload_n 0, 1) := by decide +kernel
theorem dX5_weight_83 : decode cX5_weight 83 = .ok (.getfield 22, 3) := by decide +kernel
theorem dX5_weight_86 : decode cX5_weight 86 = .ok (.iload_n 1, 1) := by decide +kernel
theorem dX5_weight_87 : decode cX5_weight 87 = .ok (.baload, 1) := by decide +kernel
theorem dX5_weight_88 : decode cX5_weight 88 = .ok (.ifCond .ne 7, 3) := by decide +kernel
theorem dX5_weight_91 : decode cX5_weight 91 = .ok (.iconst 0, 1) := by decide +kernel
theorem dX5_weight_92 : decode cX5_weight 92 = .ok (.goto 39, 3) := by decide +kernel
theorem dX5_weight_95 : decode cX5_weight 95 = .ok (.aload_n 0, 1) := by decide +kernel
theorem dX5_weight_96 : decode cX5_weight 96 = .ok (.getfield 108, 3) := by decide +kernel
theorem dX5_weight_99 : decode cX5_weight 99 = .ok (.ifCond .ne 7, 3) := by decide +kernel
theorem dX5_weight_102 : decode cX5_weight 102 = .ok (.iconst 1, 1) := by decide +kernel
theorem dX5_weight_103 : decode cX5_weight 103 = .ok (.goto 28, 3) := by decide +kernel
theorem dX5_weight_106 : decode cX5_weight 106 = .ok (.aload_n 0, 1) := by decide +kernel
theorem dX5_weight_107 : decode cX5_weight 107 = .ok (.getfield 108, 3) := by decide +kernel
theorem dX5_weight_110 : decode cX5_weight 110 = .ok (.iconst 1, 1) := by decide +kernel
theorem dX5_weight_111 : decode cX5_weight 111 = .ok (.if_icmp .ne 10, 3) := by decide +kernel
theorem dX5_weight_114 : decode cX5_weight 114 = .ok (.iconst 1, 1) := by decide +kernel
theorem dX5_weight_115 : decode cX5_weight 115 = .ok (.iload 4, 2) := by decide +kernel
theorem dX5_weight_117 : decode cX5_weight 117 = .ok (.iadd, 1) := by decide +kernel
theorem dX5_weight_118 : decode cX5_weight 118 = .ok (.goto 13, 3) := by decide +kernel
theorem dX5_weight_121 : decode cX5_weight 121 = .ok (.iload 4, 2) := by decide +kernel
theorem dX5_weight_123 : decode cX5_weight 123 = .ok (.ifCond .ne 7, 3) := by decide +kernel
theorem dX5_weight_126 : decode cX5_weight 126 = .ok (.iconst 3, 1) := by decide +kernel
theorem dX5_weight_127 : decode cX5_weight 127 = .ok (.goto 4, 3) := by decide +kernel
theorem dX5_weight_130 : decode cX5_weight 130 = .ok (.iconst 1, 1) := by decide +kernel
theorem dX5_weight_131 : decode cX5_weight 131 = .ok (.ireturn, 1) := by decide +kernel
theorem dX5_sumOf_0 : decode cX5_sumOf 0 = .ok (.lconst 0, 1) := by decide +kernel
theorem dX5_sumOf_1 : decode cX5_sumOf 1 = .ok (.lstore 4, 2) := by decide +kernel
theorem dX5_sumOf_3 : decode cX5_sumOf 3 = .ok (.iconst 0, 1) := by decide +kernel
theorem dX5_sumOf_4 : decode cX5_sumOf 4 = .ok (.istore 6, 2) := by decide +kernel
theorem dX5_sumOf_6 : decode cX5_sumOf 6 = .ok (.iload 6, 2) := by decide +kernel
theorem dX5_sumOf_8 : decode cX5_sumOf 8 = .ok (.aload_n 0, 1) := by decide +kernel
theorem dX5_sumOf_9 : decode cX5_sumOf 9 = .ok (.getfield 61, 3) := by decide +kernel
theorem dX5_sumOf_12 : decode cX5_sumOf 12 = .ok (.if_icmp .ge 66, 3) := by decide +kernel
theorem dX5_sumOf_15 : decode cX5_sumOf 15 = .ok (.aload_n 0, 1) := by decide +kernel
theorem dX5_sumOf_16 : decode cX5_sumOf 16 = .ok (.aload_n 1, 1) := by decide +kernel
theorem dX5_sumOf_17 : decode cX5_sumOf 17 = .ok (.iload 6, 2) := by decide +kernel
theorem dX5_sumOf_19 : decode cX5_sumOf 19 = .ok (.iload_n 3, 1) := by decide +kernel
theorem dX5_sumOf_20 : decode cX5_sumOf 20 = .ok (.aload_n 0, 1) := by decide +kernel
theorem dX5_sumOf_21 : decode cX5_sumOf 21 = .ok (.iload 6, 2) := by decide +kernel
theorem dX5_sumOf_23 : decode cX5_sumOf 23 = .ok (.iload_n 2, 1) := by decide +kernel
theorem dX5_sumOf_24 : decode cX5_sumOf 24 = .ok (.invokevirtual 94, 3) := by decide +kernel
theorem dX5_sumOf_27 : decode cX5_sumOf 27 = .ok (.iadd, 1) := by decide +kernel
theorem dX5_sumOf_28 : decode cX5_sumOf 28 = .ok (.aload_n 0, 1) := by decide +kernel
theorem dX5_sumOf_29 : decode cX5_sumOf 29 = .ok (.getfield 29, 3) := by decide +kernel
theorem dX5_sumOf_32 : decode cX5_sumOf 32 = .ok (.iload 6, 2) := by decide +kernel
theorem dX5_sumOf_34 : decode cX5_sumOf 34 = .ok (.iaload, 1) := by decide +kernel
theorem dX5_sumOf_35 : decode cX5_sumOf 35 = .ok (.iadd, 1) := by decide +kernel
theorem dX5_sumOf_36 : decode cX5_sumOf 36 = .ok (.invokevirtual 115, 3) := by decide +kernel
theorem dX5_sumOf_39 : decode cX5_sumOf 39 = .ok (.istore 7, 2) := by decide +kernel
theorem dX5_sumOf_41 : decode cX5_sumOf 41 = .ok (.lload 4, 2) := by decide +kernel
theorem dX5_sumOf_43 : decode cX5_sumOf 43 = .ok (.aload_n 0, 1) := by decide +kernel
theorem dX5_sumOf_44 : decode cX5_sumOf 44 = .ok (.iload 6, 2) := by decide +kernel
theorem dX5_sumOf_46 : decode cX5_sumOf 46 = .ok (.invokevirtual 119, 3) := by decide +kernel
theorem dX5_sumOf_49 : decode cX5_sumOf 49 = .ok (.i2l, 1) := by decide +kernel
theorem dX5_sumOf_50 : decode cX5_sumOf 50 = .ok (.ldc2_w 102, 3) := by decide +kernel
theorem dX5_sumOf_53 : decode cX5_sumOf 53 = .ok (.iload 7, 2) := by decide +kernel
theorem dX5_sumOf_55 : decode cX5_sumOf 55 = .ok (.i2l, 1) := by decide +kernel
theorem dX5_sumOf_56 : decode cX5_sumOf 56 = .ok (.lmul, 1) := by decide +kernel
theorem dX5_sumOf_57 : decode cX5_sumOf 57 = .ok (.aload_n 0, 1) := by decide +kernel
theorem dX5_sumOf_58 : decode cX5_sumOf 58 = .ok (.getfield 26, 3) := by decide +kernel
theorem dX5_sumOf_61 : decode cX5_sumOf 61 = .ok (.iload 6, 2) := by decide +kernel
theorem dX5_sumOf_63 : decode cX5_sumOf 63 = .ok (.iaload, 1) := by decide +kernel
theorem dX5_sumOf_64 : decode cX5_sumOf 64 = .ok (.i2l, 1) := by decide +kernel
theorem dX5_sumOf_65 : decode cX5_sumOf 65 = .ok (.invokestatic 70, 3) := by decide +kernel
theorem dX5_sumOf_68 : decode cX5_sumOf 68 = .ok (.lmul, 1) := by decide +kernel
theorem dX5_sumOf_69 : decode cX5_sumOf 69 = .ok (.ladd, 1) := by decide +kernel
theorem dX5_sumOf_70 : decode cX5_sumOf 70 = .ok (.lstore 4, 2) := by decide +kernel
theorem dX5_sumOf_72 : decode cX5_sumOf 72 = .ok (.iinc 6 1, 3) := by decide +kernel
theorem dX5_sumOf_75 : decode cX5_sumOf 75 = .ok (.goto (-69), 3) := by decide +kernel
theorem dX5_sumOf_78 : decode cX5_sumOf 78 = .ok (.lload 4, 2) := by decide +kernel
theorem dX5_sumOf_80 : decode cX5_sumOf 80 = .ok (.lreturn, 1) := by decide +kernel
theorem dX5_powerOf_0 : decode cX5_powerOf 0 = .ok (.lconst 0, 1) := by decide +kernel
theorem dX5_powerOf_1 : decode cX5_powerOf 1 = .ok (.lstore_n 3, 1) := by decide +kernel
theorem dX5_powerOf_2 : decode cX5_powerOf 2 = .ok (.bipush 47, 2) := by decide +kernel
theorem dX5_powerOf_4 : decode cX5_powerOf 4 = .ok (.istore 5, 2) := by decide +kernel
theorem dX5_powerOf_6 : decode cX5_powerOf 6 = .ok (.iload 5, 2) := by decide +kernel
theorem dX5_powerOf_8 : decode cX5_powerOf 8 = .ok (.bipush 16, 2) := by decide +kernel
theorem dX5_powerOf_10 : decode cX5_powerOf 10 = .ok (.if_icmp .lt 34, 3) := by decide +kernel
theorem dX5_powerOf_13 : decode cX5_powerOf 13 = .ok (.aload_n 0, 1) := by decide +kernel
theorem dX5_powerOf_14 : decode cX5_powerOf 14 = .ok (.aload_n 1, 1) := by decide +kernel
theorem dX5_powerOf_15 : decode cX5_powerOf 15 = .ok (.iload_n 2, 1) := by decide +kernel
theorem dX5_powerOf_16 : decode cX5_powerOf 16 = .ok (.aload_n 0, 1) := by decide +kernel
theorem dX5_powerOf_17 : decode cX5_powerOf 17 = .ok (.getfield 78, 3) := by decide +kernel
theorem dX5_powerOf_20 : decode cX5_powerOf 20 = .ok (.iconst 1, 1) := by decide +kernel
theorem dX5_powerOf_21 : decode cX5_powerOf 21 = .ok (.isub, 1) := by decide +kernel
theorem dX5_powerOf_22 : decode cX5_powerOf 22 = .ok (.iload 5, 2) := by decide +kernel
theorem dX5_powerOf_24 : decode cX5_powerOf 24 = .ok (.isub, 1) := by decide +kernel
theorem dX5_powerOf_25 : decode cX5_powerOf 25 = .ok (.invokevirtual 123, 3) := by decide +kernel
theorem dX5_powerOf_28 : decode cX5_powerOf 28 = .ok (.lstore 6, 2) := by decide +kernel
theorem dX5_powerOf_30 : decode cX5_powerOf 30 = .ok (.lload_n 3, 1) := by decide +kernel
theorem dX5_powerOf_31 : decode cX5_powerOf 31 = .ok (.lload 6, 2) := by decide +kernel
theorem dX5_powerOf_33 : decode cX5_powerOf 33 = .ok (.lload 6, 2) := by decide +kernel
theorem dX5_powerOf_35 : decode cX5_powerOf 35 = .ok (.lmul, 1) := by decide +kernel
theorem dX5_powerOf_36 : decode cX5_powerOf 36 = .ok (.ladd, 1) := by decide +kernel
theorem dX5_powerOf_37 : decode cX5_powerOf 37 = .ok (.lstore_n 3, 1) := by decide +kernel
theorem dX5_powerOf_38 : decode cX5_powerOf 38 = .ok (.iinc 5 (-1), 3) := by decide +kernel
theorem dX5_powerOf_41 : decode cX5_powerOf 41 = .ok (.goto (-35), 3) := by decide +kernel
theorem dX5_powerOf_44 : decode cX5_powerOf 44 = .ok (.lload_n 3, 1) := by decide +kernel
theorem dX5_powerOf_45 : decode cX5_powerOf 45 = .ok (.lreturn, 1) := by decide +kernel
theorem dX5_lowest_0 : decode cX5_lowest 0 = .ok (.iconst 0, 1) := by decide +kernel
theorem dX5_lowest_1 : decode cX5_lowest 1 = .ok (.istore_n 1, 1) := by decide +kernel
theorem dX5_lowest_2 : decode cX5_lowest 2 = .ok (.iload_n 1, 1) := by decide +kernel
theorem dX5_lowest_3 : decode cX5_lowest 3 = .ok (.aload_n 0, 1) := by decide +kernel
theorem dX5_lowest_4 : decode cX5_lowest 4 = .ok (.getfield 61, 3) := by decide +kernel
theorem dX5_lowest_7 : decode cX5_lowest 7 = .ok (.if_icmp .ge 20, 3) := by decide +kernel
theorem dX5_lowest_10 : decode cX5_lowest 10 = .ok (.aload_n 0, 1) := by decide +kernel
theorem dX5_lowest_11 : decode cX5_lowest 11 = .ok (.getfield 22, 3) := by decide +kernel
theorem dX5_lowest_14 : decode cX5_lowest 14 = .ok (.iload_n 1, 1) := by decide +kernel
theorem dX5_lowest_15 : decode cX5_lowest 15 = .ok (.baload, 1) := by decide +kernel
theorem dX5_lowest_16 : decode cX5_lowest 16 = .ok (.ifCond .eq 5, 3) := by decide +kernel
theorem dX5_lowest_19 : decode cX5_lowest 19 = .ok (.iload_n 1, 1) := by decide +kernel
theorem dX5_lowest_20 : decode cX5_lowest 20 = .ok (.ireturn, 1) := by decide +kernel
theorem dX5_lowest_21 : decode cX5_lowest 21 = .ok (.iinc 1 1, 3) := by decide +kernel
theorem dX5_lowest_24 : decode cX5_lowest 24 = .ok (.goto (-22), 3) := by decide +kernel
theorem dX5_lowest_27 : decode cX5_lowest 27 = .ok (.bipush (-99), 2) := by decide +kernel
theorem dX5_lowest_29 : decode cX5_lowest 29 = .ok (.ireturn, 1) := by decide +kernel
theorem dX5_agreement_0 : decode cX5_agreement 0 = .ok (.lconst 0, 1) := by decide +kernel
theorem dX5_agreement_1 : decode cX5_agreement 1 = .ok (.lstore 5, 2) := by decide +kernel
theorem dX5_agreement_3 : decode cX5_agreement 3 = .ok (.bipush 47, 2) := by decide +kernel
theorem dX5_agreement_5 : decode cX5_agreement 5 = .ok (.istore 7, 2) := by decide +kernel
theorem dX5_agreement_7 : decode cX5_agreement 7 = .ok (.iload 7, 2) := by decide +kernel
theorem dX5_agreement_9 : decode cX5_agreement 9 = .ok (.bipush 16, 2) := by decide +kernel
theorem dX5_agreement_11 : decode cX5_agreement 11 = .ok (.if_icmp .lt 68, 3) := by decide +kernel
theorem dX5_agreement_14 : decode cX5_agreement 14 = .ok (.aload_n 0, 1) := by decide +kernel
theorem dX5_agreement_15 : decode cX5_agreement 15 = .ok (.getfield 78, 3) := by decide +kernel
theorem dX5_agreement_18 : decode cX5_agreement 18 = .ok (.iconst 1, 1) := by decide +kernel
theorem dX5_agreement_19 : decode cX5_agreement 19 = .ok (.isub, 1) := by decide +kernel
theorem dX5_agreement_20 : decode cX5_agreement 20 = .ok (.iload 7, 2) := by decide +kernel
theorem dX5_agreement_22 : decode cX5_agreement 22 = .ok (.isub, 1) := by decide +kernel
theorem dX5_agreement_23 : decode cX5_agreement 23 = .ok (.istore 8, 2) := by decide +kernel
theorem dX5_agreement_25 : decode cX5_agreement 25 = .ok (.lload 5, 2) := by decide +kernel
theorem dX5_agreement_27 : decode cX5_agreement 27 = .ok (.aload_n 0, 1) := by decide +kernel
theorem dX5_agreement_28 : decode cX5_agreement 28 = .ok (.aload_n 0, 1) := by decide +kernel
theorem dX5_agreement_29 : decode cX5_agreement 29 = .ok (.getfield 41, 3) := by decide +kernel
theorem dX5_agreement_32 : decode cX5_agreement 32 = .ok (.iload_n 1, 1) := by decide +kernel
theorem dX5_agreement_33 : decode cX5_agreement 33 = .ok (.iload 8, 2) := by decide +kernel
theorem dX5_agreement_35 : decode cX5_agreement 35 = .ok (.aload_n 0, 1) := by decide +kernel
theorem dX5_agreement_36 : decode cX5_agreement 36 = .ok (.iload_n 1, 1) := by decide +kernel
theorem dX5_agreement_37 : decode cX5_agreement 37 = .ok (.iload 4, 2) := by decide +kernel
theorem dX5_agreement_39 : decode cX5_agreement 39 = .ok (.invokevirtual 94, 3) := by decide +kernel
theorem dX5_agreement_42 : decode cX5_agreement 42 = .ok (.iadd, 1) := by decide +kernel
theorem dX5_agreement_43 : decode cX5_agreement 43 = .ok (.iload_n 2, 1) := by decide +kernel
theorem dX5_agreement_44 : decode cX5_agreement 44 = .ok (.iadd, 1) := by decide +kernel
theorem dX5_agreement_45 : decode cX5_agreement 45 = .ok (.invokevirtual 115, 3) := by decide +kernel
theorem dX5_agreement_48 : decode cX5_agreement 48 = .ok (.i2l, 1) := by decide +kernel
theorem dX5_agreement_49 : decode cX5_agreement 49 = .ok (.aload_n 0, 1) := by decide +kernel
theorem dX5_agreement_50 : decode cX5_agreement 50 = .ok (.aload_n 0, 1) := by decide +kernel
theorem dX5_agreement_51 : decode cX5_agreement 51 = .ok (.getfield 41, 3) := by decide +kernel
theorem dX5_agreement_54 : decode cX5_agreement 54 = .ok (.iload_n 3, 1) := by decide +kernel
theorem dX5_agreement_55 : decode cX5_agreement 55 = .ok (.iload 8, 2) := by decide +kernel
theorem dX5_agreement_57 : decode cX5_agreement 57 = .ok (.aload_n 0, 1) := by decide +kernel
theorem dX5_agreement_58 : decode cX5_agreement 58 = .ok (.iload_n 3, 1) := by decide +kernel
theorem dX5_agreement_59 : decode cX5_agreement 59 = .ok (.iload 4, 2) := by decide +kernel
theorem dX5_agreement_61 : decode cX5_agreement 61 = .ok (.invokevirtual 94, 3) := by decide +kernel
theorem dX5_agreement_64 : decode cX5_agreement 64 = .ok (.iadd, 1) := by decide +kernel
theorem dX5_agreement_65 : decode cX5_agreement 65 = .ok (.invokevirtual 115, 3) := by decide +kernel
theorem dX5_agreement_68 : decode cX5_agreement 68 = .ok (.i2l, 1) := by decide +kernel
theorem dX5_agreement_69 : decode cX5_agreement 69 = .ok (.lmul, 1) := by decide +kernel
theorem dX5_agreement_70 : decode cX5_agreement 70 = .ok (.ladd, 1) := by decide +kernel
theorem dX5_agreement_71 : decode cX5_agreement 71 = .ok (.lstore 5, 2) := by decide +kernel
theorem dX5_agreement_73 : decode cX5_agreement 73 = .ok (.iinc 7 (-1), 3) := by decide +kernel
theorem dX5_agreement_76 : decode cX5_agreement 76 = .ok (.goto (-69), 3) := by decide +kernel
theorem dX5_agreement_79 : decode cX5_agreement 79 = .ok (.lload 5, 2) := by decide +kernel
theorem dX5_agreement_81 : decode cX5_agreement 81 = .ok (.lreturn, 1) := by decide +kernel
theorem dX5_becomes_0 : decode cX5_becomes 0 = .ok (.aload_n 0, 1) := by decide +kernel
theorem dX5_becomes_1 : decode cX5_becomes 1 = .ok (.getfield 26, 3) := by decide +kernel
theorem dX5_becomes_4 : decode cX5_becomes 4 = .ok (.iload_n 1, 1) := by decide +kernel
theorem dX5_becomes_5 : decode cX5_becomes 5 = .ok (.iaload, 1) := by decide +kernel
theorem dX5_becomes_6 : decode cX5_becomes 6 = .ok (.iload_n 2, 1) := by decide +kernel
theorem dX5_becomes_7 : decode cX5_becomes 7 = .ok (.if_icmp .ne 13, 3) := by decide +kernel
theorem dX5_becomes_10 : decode cX5_becomes 10 = .ok (.aload_n 0, 1) := by decide +kernel
theorem dX5_becomes_11 : decode cX5_becomes 11 = .ok (.getfield 29, 3) := by decide +kernel
theorem dX5_becomes_14 : decode cX5_becomes 14 = .ok (.iload_n 1, 1) := by decide +kernel
theorem dX5_becomes_15 : decode cX5_becomes 15 = .ok (.iaload, 1) := by decide +kernel
theorem dX5_becomes_16 : decode cX5_becomes 16 = .ok (.iload_n 3, 1) := by decide +kernel
theorem dX5_becomes_17 : decode cX5_becomes 17 = .ok (.if_icmp .eq 7, 3) := by decide +kernel
theorem dX5_becomes_20 : decode cX5_becomes 20 = .ok (.iconst 1, 1) := by decide +kernel
theorem dX5_becomes_21 : decode cX5_becomes 21 = .ok (.goto 4, 3) := by decide +kernel
theorem dX5_becomes_24 : decode cX5_becomes 24 = .ok (.iconst 0, 1) := by decide +kernel
theorem dX5_becomes_25 : decode cX5_becomes 25 = .ok (.istore 4, 2) := by decide +kernel
theorem dX5_becomes_27 : decode cX5_becomes 27 = .ok (.aload_n 0, 1) := by decide +kernel
theorem dX5_becomes_28 : decode cX5_becomes 28 = .ok (.getfield 26, 3) := by decide +kernel
theorem dX5_becomes_31 : decode cX5_becomes 31 = .ok (.iload_n 1, 1) := by decide +kernel
theorem dX5_becomes_32 : decode cX5_becomes 32 = .ok (.iload_n 2, 1) := by decide +kernel
theorem dX5_becomes_33 : decode cX5_becomes 33 = .ok (.iastore, 1) := by decide +kernel
theorem dX5_becomes_34 : decode cX5_becomes 34 = .ok (.aload_n 0, 1) := by decide +kernel
theorem dX5_becomes_35 : decode cX5_becomes 35 = .ok (.getfield 29, 3) := by decide +kernel
theorem dX5_becomes_38 : decode cX5_becomes 38 = .ok (.iload_n 1, 1) := by decide +kernel
theorem dX5_becomes_39 : decode cX5_becomes 39 = .ok (.iload_n 3, 1) := by decide +kernel
theorem dX5_becomes_40 : decode cX5_becomes 40 = .ok (.iastore, 1) := by decide +kernel
theorem dX5_becomes_41 : decode cX5_becomes 41 = .ok (.iload 4, 2) := by decide +kernel
theorem dX5_becomes_43 : decode cX5_becomes 43 = .ok (.ireturn, 1) := by decide +kernel
theorem dX5_isFitted_0 : decode cX5_isFitted 0 = .ok (.bipush (-3), 2) := by decide +kernel
theorem dX5_isFitted_2 : decode cX5_isFitted 2 = .ok (.istore 6, 2) := by decide +kernel
theorem dX5_isFitted_4 : decode cX5_isFitted 4 = .ok (.bipush (-2), 2) := by decide +kernel
theorem dX5_isFitted_6 : decode cX5_isFitted 6 = .ok (.istore 7, 2) := by decide +kernel
theorem dX5_isFitted_8 : decode cX5_isFitted 8 = .ok (.iload 7, 2) := by decide +kernel
theorem dX5_isFitted_10 : decode cX5_isFitted 10 = .ok (.iconst 3, 1) := by decide +kernel
theorem dX5_isFitted_11 : decode cX5_isFitted 11 = .ok (.if_icmp .gt 40, 3) := by decide +kernel
theorem dX5_isFitted_14 : decode cX5_isFitted 14 = .ok (.aload_n 0, 1) := by decide +kernel
theorem dX5_isFitted_15 : decode cX5_isFitted 15 = .ok (.iload_n 1, 1) := by decide +kernel
theorem dX5_isFitted_16 : decode cX5_isFitted 16 = .ok (.iload 7, 2) := by decide +kernel
theorem dX5_isFitted_18 : decode cX5_isFitted 18 = .ok (.iload_n 2, 1) := by decide +kernel
theorem dX5_isFitted_19 : decode cX5_isFitted 19 = .ok (.iload_n 3, 1) := by decide +kernel
theorem dX5_isFitted_20 : decode cX5_isFitted 20 = .ok (.invokevirtual 127, 3) := by decide +kernel
theorem dX5_isFitted_23 : decode cX5_isFitted 23 = .ok (.aload_n 0, 1) := by decide +kernel
theorem dX5_isFitted_24 : decode cX5_isFitted 24 = .ok (.iload_n 1, 1) := by decide +kernel
theorem dX5_isFitted_25 : decode cX5_isFitted 25 = .ok (.iload 6, 2) := by decide +kernel
theorem dX5_isFitted_27 : decode cX5_isFitted 27 = .ok (.iload_n 2, 1) := by decide +kernel
theorem dX5_isFitted_28 : decode cX5_isFitted 28 = .ok (.iload_n 3, 1) := by decide +kernel
theorem dX5_isFitted_29 : decode cX5_isFitted 29 = .ok (.invokevirtual 127, 3) := by decide +kernel
theorem dX5_isFitted_32 : decode cX5_isFitted 32 = .ok (.lcmp, 1) := by decide +kernel
theorem dX5_isFitted_33 : decode cX5_isFitted 33 = .ok (.ifCond .le 8, 3) := by decide +kernel
theorem dX5_isFitted_36 : decode cX5_isFitted 36 = .ok (.iload 7, 2) := by decide +kernel
theorem dX5_isFitted_38 : decode cX5_isFitted 38 = .ok (.goto 5, 3) := by decide +kernel
theorem dX5_isFitted_41 : decode cX5_isFitted 41 = .ok (.iload 6, 2) := by decide +kernel
theorem dX5_isFitted_43 : decode cX5_isFitted 43 = .ok (.istore 6, 2) := by decide +kernel
theorem dX5_isFitted_45 : decode cX5_isFitted 45 = .ok (.iinc 7 1, 3) := by decide +kernel
theorem dX5_isFitted_48 : decode cX5_isFitted 48 = .ok (.goto (-40), 3) := by decide +kernel
theorem dX5_isFitted_51 : decode cX5_isFitted 51 = .ok (.ldc2_w 102, 3) := by decide +kernel
theorem dX5_isFitted_54 : decode cX5_isFitted 54 = .ok (.aload_n 0, 1) := by decide +kernel
theorem dX5_isFitted_55 : decode cX5_isFitted 55 = .ok (.iload_n 1, 1) := by decide +kernel
theorem dX5_isFitted_56 : decode cX5_isFitted 56 = .ok (.iload 6, 2) := by decide +kernel
theorem dX5_isFitted_58 : decode cX5_isFitted 58 = .ok (.iload_n 2, 1) := by decide +kernel
theorem dX5_isFitted_59 : decode cX5_isFitted 59 = .ok (.iload_n 3, 1) := by decide +kernel
theorem dX5_isFitted_60 : decode cX5_isFitted 60 = .ok (.invokevirtual 127, 3) := by decide +kernel
theorem dX5_isFitted_63 : decode cX5_isFitted 63 = .ok (.lmul, 1) := by decide +kernel
theorem dX5_isFitted_64 : decode cX5_isFitted 64 = .ok (.lload 4, 2) := by decide +kernel
theorem dX5_isFitted_66 : decode cX5_isFitted 66 = .ok (.invokestatic 70, 3) := by decide +kernel
theorem dX5_isFitted_69 : decode cX5_isFitted 69 = .ok (.lstore 7, 2) := by decide +kernel
theorem dX5_isFitted_71 : decode cX5_isFitted 71 = .ok (.aload_n 0, 1) := by decide +kernel
theorem dX5_isFitted_72 : decode cX5_isFitted 72 = .ok (.iload_n 1, 1) := by decide +kernel
theorem dX5_isFitted_73 : decode cX5_isFitted 73 = .ok (.lload 7, 2) := by decide +kernel
theorem dX5_isFitted_75 : decode cX5_isFitted 75 = .ok (.ldc2_w 131, 3) := by decide +kernel
theorem dX5_isFitted_78 : decode cX5_isFitted 78 = .ok (.lcmp, 1) := by decide +kernel
theorem dX5_isFitted_79 : decode cX5_isFitted 79 = .ok (.ifCond .ge 8, 3) := by decide +kernel
theorem dX5_isFitted_82 : decode cX5_isFitted 82 = .ok (.bipush 16, 2) := by decide +kernel
theorem dX5_isFitted_84 : decode cX5_isFitted 84 = .ok (.goto 21, 3) := by decide +kernel
theorem dX5_isFitted_87 : decode cX5_isFitted 87 = .ok (.lload 7, 2) := by decide +kernel
theorem dX5_isFitted_89 : decode cX5_isFitted 89 = .ok (.ldc2_w 133, 3) := by decide +kernel
theorem dX5_isFitted_92 : decode cX5_isFitted 92 = .ok (.lcmp, 1) := by decide +kernel
theorem dX5_isFitted_93 : decode cX5_isFitted 93 = .ok (.ifCond .le 9, 3) := by decide +kernel
theorem dX5_isFitted_96 : decode cX5_isFitted 96 = .ok (.sipush 255, 3) := by decide +kernel
theorem dX5_isFitted_99 : decode cX5_isFitted 99 = .ok (.goto 6, 3) := by decide +kernel
theorem dX5_isFitted_102 : decode cX5_isFitted 102 = .ok (.lload 7, 2) := by decide +kernel
theorem dX5_isFitted_104 : decode cX5_isFitted 104 = .ok (.l2i, 1) := by decide +kernel
theorem dX5_isFitted_105 : decode cX5_isFitted 105 = .ok (.iload 6, 2) := by decide +kernel
theorem dX5_isFitted_107 : decode cX5_isFitted 107 = .ok (.invokevirtual 135, 3) := by decide +kernel
theorem dX5_isFitted_110 : decode cX5_isFitted 110 = .ok (.ireturn, 1) := by decide +kernel
theorem dX5_calibrate_0 : decode cX5_calibrate 0 = .ok (.iload_n 1, 1) := by decide +kernel
theorem dX5_calibrate_1 : decode cX5_calibrate 1 = .ok (.invokestatic 84, 3) := by decide +kernel
theorem dX5_calibrate_4 : decode cX5_calibrate 4 = .ok (.istore_n 2, 1) := by decide +kernel
theorem dX5_calibrate_5 : decode cX5_calibrate 5 = .ok (.aload_n 0, 1) := by decide +kernel
theorem dX5_calibrate_6 : decode cX5_calibrate 6 = .ok (.invokevirtual 138, 3) := by decide +kernel
theorem dX5_calibrate_9 : decode cX5_calibrate 9 = .ok (.istore_n 3, 1) := by decide +kernel
theorem dX5_calibrate_10 : decode cX5_calibrate 10 = .ok (.iload_n 2, 1) := by decide +kernel
theorem dX5_calibrate_11 : decode cX5_calibrate 11 = .ok (.ifCond .eq 20, 3) := by decide +kernel
theorem dX5_calibrate_14 : decode cX5_calibrate 14 = .ok (.iload_n 3, 1) := by decide +kernel
theorem dX5_calibrate_15 : decode cX5_calibrate 15 = .ok (.bipush (-99), 2) := by decide +kernel
theorem dX5_calibrate_17 : decode cX5_calibrate 17 = .ok (.if_icmp .eq 14, 3) := by decide +kernel
theorem dX5_calibrate_20 : decode cX5_calibrate 20 = .ok (.aload_n 0, 1) := by decide +kernel
theorem dX5_calibrate_21 : decode cX5_calibrate 21 = .ok (.iload_n 3, 1) := by decide +kernel
theorem dX5_calibrate_22 : decode cX5_calibrate 22 = .ok (.iconst 0, 1) := by decide +kernel
theorem dX5_calibrate_23 : decode cX5_calibrate 23 = .ok (.iload_n 3, 1) := by decide +kernel
theorem dX5_calibrate_24 : decode cX5_calibrate 24 = .ok (.iload_n 1, 1) := by decide +kernel
theorem dX5_calibrate_25 : decode cX5_calibrate 25 = .ok (.invokevirtual 127, 3) := by decide +kernel
theorem dX5_calibrate_28 : decode cX5_calibrate 28 = .ok (.goto 4, 3) := by decide +kernel
theorem dX5_calibrate_31 : decode cX5_calibrate 31 = .ok (.lconst 0, 1) := by decide +kernel
theorem dX5_calibrate_32 : decode cX5_calibrate 32 = .ok (.lstore 4, 2) := by decide +kernel
theorem dX5_calibrate_34 : decode cX5_calibrate 34 = .ok (.aload_n 0, 1) := by decide +kernel
theorem dX5_calibrate_35 : decode cX5_calibrate 35 = .ok (.iload_n 2, 1) := by decide +kernel
theorem dX5_calibrate_36 : decode cX5_calibrate 36 = .ok (.ifCond .ne 7, 3) := by decide +kernel
theorem dX5_calibrate_39 : decode cX5_calibrate 39 = .ok (.iconst 1, 1) := by decide +kernel
theorem dX5_calibrate_40 : decode cX5_calibrate 40 = .ok (.goto 15, 3) := by decide +kernel
theorem dX5_calibrate_43 : decode cX5_calibrate 43 = .ok (.lload 4, 2) := by decide +kernel
theorem dX5_calibrate_45 : decode cX5_calibrate 45 = .ok (.lconst 0, 1) := by decide +kernel
theorem dX5_calibrate_46 : decode cX5_calibrate 46 = .ok (.lcmp, 1) := by decide +kernel
theorem dX5_calibrate_47 : decode cX5_calibrate 47 = .ok (.ifCond .ne 7, 3) := by decide +kernel
theorem dX5_calibrate_50 : decode cX5_calibrate 50 = .ok (.iconst 2, 1) := by decide +kernel
theorem dX5_calibrate_51 : decode cX5_calibrate 51 = .ok (.goto 4, 3) := by decide +kernel
theorem dX5_calibrate_54 : decode cX5_calibrate 54 = .ok (.iconst 0, 1) := by decide +kernel
theorem dX5_calibrate_55 : decode cX5_calibrate 55 = .ok (.invokevirtual 74, 3) := by decide +kernel
theorem dX5_calibrate_58 : decode cX5_calibrate 58 = .ok (.ifCond .ne 5, 3) := by decide +kernel
theorem dX5_calibrate_61 : decode cX5_calibrate 61 = .ok (.iconst 0, 1) := by decide +kernel
theorem dX5_calibrate_62 : decode cX5_calibrate 62 = .ok (.ireturn, 1) := by decide +kernel
theorem dX5_calibrate_63 : decode cX5_calibrate 63 = .ok (.aload_n 0, 1) := by decide +kernel
theorem dX5_calibrate_64 : decode cX5_calibrate 64 = .ok (.iload_n 3, 1) := by decide +kernel
theorem dX5_calibrate_65 : decode cX5_calibrate 65 = .ok (.bipush 64, 2) := by decide +kernel
theorem dX5_calibrate_67 : decode cX5_calibrate 67 = .ok (.iconst 0, 1) := by decide +kernel
theorem dX5_calibrate_68 : decode cX5_calibrate 68 = .ok (.invokevirtual 135, 3) := by decide +kernel
theorem dX5_calibrate_71 : decode cX5_calibrate 71 = .ok (.ifCond .eq 7, 3) := by decide +kernel
theorem dX5_calibrate_74 : decode cX5_calibrate 74 = .ok (.iconst 1, 1) := by decide +kernel
theorem dX5_calibrate_75 : decode cX5_calibrate 75 = .ok (.goto 4, 3) := by decide +kernel
theorem dX5_calibrate_78 : decode cX5_calibrate 78 = .ok (.iconst 0, 1) := by decide +kernel
theorem dX5_calibrate_79 : decode cX5_calibrate 79 = .ok (.istore 6, 2) := by decide +kernel
theorem dX5_calibrate_81 : decode cX5_calibrate 81 = .ok (.iload_n 3, 1) := by decide +kernel
theorem dX5_calibrate_82 : decode cX5_calibrate 82 = .ok (.iconst 1, 1) := by decide +kernel
theorem dX5_calibrate_83 : decode cX5_calibrate 83 = .ok (.iadd, 1) := by decide +kernel
theorem dX5_calibrate_84 : decode cX5_calibrate 84 = .ok (.istore 7, 2) := by decide +kernel
theorem dX5_calibrate_86 : decode cX5_calibrate 86 = .ok (.iload 7, 2) := by decide +kernel
theorem dX5_calibrate_88 : decode cX5_calibrate 88 = .ok (.aload_n 0, 1) := by decide +kernel
theorem dX5_calibrate_89 : decode cX5_calibrate 89 = .ok (.getfield 61, 3) := by decide +kernel
theorem dX5_calibrate_92 : decode cX5_calibrate 92 = .ok (.if_icmp .ge 42, 3) := by decide +kernel
theorem dX5_calibrate_95 : decode cX5_calibrate 95 = .ok (.iload 6, 2) := by decide +kernel
theorem dX5_calibrate_97 : decode cX5_calibrate 97 = .ok (.aload_n 0, 1) := by decide +kernel
theorem dX5_calibrate_98 : decode cX5_calibrate 98 = .ok (.getfield 22, 3) := by decide +kernel
theorem dX5_calibrate_101 : decode cX5_calibrate 101 = .ok (.iload 7, 2) := by decide +kernel
theorem dX5_calibrate_103 : decode cX5_calibrate 103 = .ok (.baload, 1) := by decide +kernel
theorem dX5_calibrate_104 : decode cX5_calibrate 104 = .ok (.ifCond .eq 20, 3) := by decide +kernel
theorem dX5_calibrate_107 : decode cX5_calibrate 107 = .ok (.aload_n 0, 1) := by decide +kernel
theorem dX5_calibrate_108 : decode cX5_calibrate 108 = .ok (.iload 7, 2) := by decide +kernel
theorem dX5_calibrate_110 : decode cX5_calibrate 110 = .ok (.iload_n 3, 1) := by decide +kernel
theorem dX5_calibrate_111 : decode cX5_calibrate 111 = .ok (.iload_n 1, 1) := by decide +kernel
theorem dX5_calibrate_112 : decode cX5_calibrate 112 = .ok (.lload 4, 2) := by decide +kernel
theorem dX5_calibrate_114 : decode cX5_calibrate 114 = .ok (.invokevirtual 142, 3) := by decide +kernel
theorem dX5_calibrate_117 : decode cX5_calibrate 117 = .ok (.ifCond .eq 7, 3) := by decide +kernel
theorem dX5_calibrate_120 : decode cX5_calibrate 120 = .ok (.iconst 1, 1) := by decide +kernel
theorem dX5_calibrate_121 : decode cX5_calibrate 121 = .ok (.goto 4, 3) := by decide +kernel
theorem dX5_calibrate_124 : decode cX5_calibrate 124 = .ok (.iconst 0, 1) := by decide +kernel
theorem dX5_calibrate_125 : decode cX5_calibrate 125 = .ok (.iadd, 1) := by decide +kernel
theorem dX5_calibrate_126 : decode cX5_calibrate 126 = .ok (.istore 6, 2) := by decide +kernel
theorem dX5_calibrate_128 : decode cX5_calibrate 128 = .ok (.iinc 7 1, 3) := by decide +kernel
theorem dX5_calibrate_131 : decode cX5_calibrate 131 = .ok (.goto (-45), 3) := by decide +kernel
theorem dX5_calibrate_134 : decode cX5_calibrate 134 = .ok (.iload 6, 2) := by decide +kernel
theorem dX5_calibrate_136 : decode cX5_calibrate 136 = .ok (.ireturn, 1) := by decide +kernel
theorem dX5_sample_0 : decode cX5_sample 0 = .ok (.aload_n 0, 1) := by decide +kernel
theorem dX5_sample_1 : decode cX5_sample 1 = .ok (.iload_n 1, 1) := by decide +kernel
theorem dX5_sample_2 : decode cX5_sample 2 = .ok (.invokevirtual 81, 3) := by decide +kernel
theorem dX5_sample_5 : decode cX5_sample 5 = .ok (.ifCond .eq 17, 3) := by decide +kernel
theorem dX5_sample_8 : decode cX5_sample 8 = .ok (.iload_n 2, 1) := by decide +kernel
theorem dX5_sample_9 : decode cX5_sample 9 = .ok (.iconst 0, 1) := by decide +kernel
theorem dX5_sample_10 : decode cX5_sample 10 = .ok (.bipush 63, 2) := by decide +kernel
theorem dX5_sample_12 : decode cX5_sample 12 = .ok (.invokestatic 64, 3) := by decide +kernel
theorem dX5_sample_15 : decode cX5_sample 15 = .ok (.ifCond .eq 7, 3) := by decide +kernel
theorem dX5_sample_18 : decode cX5_sample 18 = .ok (.iconst 1, 1) := by decide +kernel
theorem dX5_sample_19 : decode cX5_sample 19 = .ok (.goto 4, 3) := by decide +kernel
theorem dX5_sample_22 : decode cX5_sample 22 = .ok (.iconst 0, 1) := by decide +kernel
theorem dX5_sample_23 : decode cX5_sample 23 = .ok (.istore_n 3, 1) := by decide +kernel
theorem dX5_sample_24 : decode cX5_sample 24 = .ok (.aload_n 0, 1) := by decide +kernel
theorem dX5_sample_25 : decode cX5_sample 25 = .ok (.iload_n 3, 1) := by decide +kernel
theorem dX5_sample_26 : decode cX5_sample 26 = .ok (.ifCond .eq 7, 3) := by decide +kernel
theorem dX5_sample_29 : decode cX5_sample 29 = .ok (.iconst 0, 1) := by decide +kernel
theorem dX5_sample_30 : decode cX5_sample 30 = .ok (.goto 4, 3) := by decide +kernel
theorem dX5_sample_33 : decode cX5_sample 33 = .ok (.iconst 1, 1) := by decide +kernel
theorem dX5_sample_34 : decode cX5_sample 34 = .ok (.invokevirtual 74, 3) := by decide +kernel
theorem dX5_sample_37 : decode cX5_sample 37 = .ok (.ifCond .eq 23, 3) := by decide +kernel
theorem dX5_sample_40 : decode cX5_sample 40 = .ok (.aload_n 0, 1) := by decide +kernel
theorem dX5_sample_41 : decode cX5_sample 41 = .ok (.aload_n 0, 1) := by decide +kernel
theorem dX5_sample_42 : decode cX5_sample 42 = .ok (.getfield 41, 3) := by decide +kernel
theorem dX5_sample_45 : decode cX5_sample 45 = .ok (.iload_n 1, 1) := by decide +kernel
theorem dX5_sample_46 : decode cX5_sample 46 = .ok (.aload_n 0, 1) := by decide +kernel
theorem dX5_sample_47 : decode cX5_sample 47 = .ok (.getfield 78, 3) := by decide +kernel
theorem dX5_sample_50 : decode cX5_sample 50 = .ok (.iconst 1, 1) := by decide +kernel
theorem dX5_sample_51 : decode cX5_sample 51 = .ok (.isub, 1) := by decide +kernel
theorem dX5_sample_52 : decode cX5_sample 52 = .ok (.iload_n 2, 1) := by decide +kernel
theorem dX5_sample_53 : decode cX5_sample 53 = .ok (.isub, 1) := by decide +kernel
theorem dX5_sample_54 : decode cX5_sample 54 = .ok (.invokevirtual 115, 3) := by decide +kernel
theorem dX5_sample_57 : decode cX5_sample 57 = .ok (.goto 4, 3) := by decide +kernel
theorem dX5_sample_60 : decode cX5_sample 60 = .ok (.iconst 0, 1) := by decide +kernel
theorem dX5_sample_61 : decode cX5_sample 61 = .ok (.ireturn, 1) := by decide +kernel
theorem dX5_sum_0 : decode cX5_sum 0 = .ok (.iload_n 1, 1) := by decide +kernel
theorem dX5_sum_1 : decode cX5_sum 1 = .ok (.invokestatic 84, 3) := by decide +kernel
theorem dX5_sum_4 : decode cX5_sum 4 = .ok (.ifCond .eq 18, 3) := by decide +kernel
theorem dX5_sum_7 : decode cX5_sum 7 = .ok (.iload_n 2, 1) := by decide +kernel
theorem dX5_sum_8 : decode cX5_sum 8 = .ok (.bipush 16, 2) := by decide +kernel
theorem dX5_sum_10 : decode cX5_sum 10 = .ok (.bipush 47, 2) := by decide +kernel
theorem dX5_sum_12 : decode cX5_sum 12 = .ok (.invokestatic 64, 3) := by decide +kernel
theorem dX5_sum_15 : decode cX5_sum 15 = .ok (.ifCond .eq 7, 3) := by decide +kernel
theorem dX5_sum_18 : decode cX5_sum 18 = .ok (.iconst 1, 1) := by decide +kernel
theorem dX5_sum_19 : decode cX5_sum 19 = .ok (.goto 4, 3) := by decide +kernel
theorem dX5_sum_22 : decode cX5_sum 22 = .ok (.iconst 0, 1) := by decide +kernel
theorem dX5_sum_23 : decode cX5_sum 23 = .ok (.istore_n 3, 1) := by decide +kernel
theorem dX5_sum_24 : decode cX5_sum 24 = .ok (.aload_n 0, 1) := by decide +kernel
theorem dX5_sum_25 : decode cX5_sum 25 = .ok (.iload_n 3, 1) := by decide +kernel
theorem dX5_sum_26 : decode cX5_sum 26 = .ok (.ifCond .eq 7, 3) := by decide +kernel
theorem dX5_sum_29 : decode cX5_sum 29 = .ok (.iconst 0, 1) := by decide +kernel
theorem dX5_sum_30 : decode cX5_sum 30 = .ok (.goto 4, 3) := by decide +kernel
theorem dX5_sum_33 : decode cX5_sum 33 = .ok (.iconst 1, 1) := by decide +kernel
theorem dX5_sum_34 : decode cX5_sum 34 = .ok (.invokevirtual 74, 3) := by decide +kernel
theorem dX5_sum_37 : decode cX5_sum 37 = .ok (.ifCond .eq 23, 3) := by decide +kernel
theorem dX5_sum_40 : decode cX5_sum 40 = .ok (.aload_n 0, 1) := by decide +kernel
theorem dX5_sum_41 : decode cX5_sum 41 = .ok (.aload_n 0, 1) := by decide +kernel
theorem dX5_sum_42 : decode cX5_sum 42 = .ok (.getfield 41, 3) := by decide +kernel
theorem dX5_sum_45 : decode cX5_sum 45 = .ok (.iload_n 1, 1) := by decide +kernel
theorem dX5_sum_46 : decode cX5_sum 46 = .ok (.aload_n 0, 1) := by decide +kernel
theorem dX5_sum_47 : decode cX5_sum 47 = .ok (.getfield 78, 3) := by decide +kernel
theorem dX5_sum_50 : decode cX5_sum 50 = .ok (.iconst 1, 1) := by decide +kernel
theorem dX5_sum_51 : decode cX5_sum 51 = .ok (.isub, 1) := by decide +kernel
theorem dX5_sum_52 : decode cX5_sum 52 = .ok (.iload_n 2, 1) := by decide +kernel
theorem dX5_sum_53 : decode cX5_sum 53 = .ok (.isub, 1) := by decide +kernel
theorem dX5_sum_54 : decode cX5_sum 54 = .ok (.invokevirtual 123, 3) := by decide +kernel
theorem dX5_sum_57 : decode cX5_sum 57 = .ok (.goto 4, 3) := by decide +kernel
theorem dX5_sum_60 : decode cX5_sum 60 = .ok (.lconst 0, 1) := by decide +kernel
theorem dX5_sum_61 : decode cX5_sum 61 = .ok (.lreturn, 1) := by decide +kernel
theorem dX5_power_0 : decode cX5_power 0 = .ok (.aload_n 0, 1) := by decide +kernel
theorem dX5_power_1 : decode cX5_power 1 = .ok (.iload_n 1, 1) := by decide +kernel
theorem dX5_power_2 : decode cX5_power 2 = .ok (.invokestatic 84, 3) := by decide +kernel
theorem dX5_power_5 : decode cX5_power 5 = .ok (.ifCond .eq 7, 3) := by decide +kernel
theorem dX5_power_8 : decode cX5_power 8 = .ok (.iconst 0, 1) := by decide +kernel
theorem dX5_power_9 : decode cX5_power 9 = .ok (.goto 4, 3) := by decide +kernel
theorem dX5_power_12 : decode cX5_power 12 = .ok (.iconst 1, 1) := by decide +kernel
theorem dX5_power_13 : decode cX5_power 13 = .ok (.invokevirtual 74, 3) := by decide +kernel
theorem dX5_power_16 : decode cX5_power 16 = .ok (.ifCond .eq 15, 3) := by decide +kernel
theorem dX5_power_19 : decode cX5_power 19 = .ok (.aload_n 0, 1) := by decide +kernel
theorem dX5_power_20 : decode cX5_power 20 = .ok (.aload_n 0, 1) := by decide +kernel
theorem dX5_power_21 : decode cX5_power 21 = .ok (.getfield 41, 3) := by decide +kernel
theorem dX5_power_24 : decode cX5_power 24 = .ok (.iload_n 1, 1) := by decide +kernel
theorem dX5_power_25 : decode cX5_power 25 = .ok (.invokevirtual 146, 3) := by decide +kernel
theorem dX5_power_28 : decode cX5_power 28 = .ok (.goto 4, 3) := by decide +kernel
theorem dX5_power_31 : decode cX5_power 31 = .ok (.lconst 0, 1) := by decide +kernel
theorem dX5_power_32 : decode cX5_power 32 = .ok (.lreturn, 1) := by decide +kernel
theorem dX5_powerAnew_0 : decode cX5_powerAnew 0 = .ok (.aload_n 0, 1) := by decide +kernel
theorem dX5_powerAnew_1 : decode cX5_powerAnew 1 = .ok (.iload_n 1, 1) := by decide +kernel
theorem dX5_powerAnew_2 : decode cX5_powerAnew 2 = .ok (.invokestatic 84, 3) := by decide +kernel
theorem dX5_powerAnew_5 : decode cX5_powerAnew 5 = .ok (.ifCond .eq 7, 3) := by decide +kernel
theorem dX5_powerAnew_8 : decode cX5_powerAnew 8 = .ok (.iconst 0, 1) := by decide +kernel
theorem dX5_powerAnew_9 : decode cX5_powerAnew 9 = .ok (.goto 4, 3) := by decide +kernel
theorem dX5_powerAnew_12 : decode cX5_powerAnew 12 = .ok (.iconst 1, 1) := by decide +kernel
theorem dX5_powerAnew_13 : decode cX5_powerAnew 13 = .ok (.invokevirtual 74, 3) := by decide +kernel
theorem dX5_powerAnew_16 : decode cX5_powerAnew 16 = .ok (.ifCond .eq 15, 3) := by decide +kernel
theorem dX5_powerAnew_19 : decode cX5_powerAnew 19 = .ok (.aload_n 0, 1) := by decide +kernel
theorem dX5_powerAnew_20 : decode cX5_powerAnew 20 = .ok (.aload_n 0, 1) := by decide +kernel
theorem dX5_powerAnew_21 : decode cX5_powerAnew 21 = .ok (.getfield 41, 3) := by decide +kernel
theorem dX5_powerAnew_24 : decode cX5_powerAnew 24 = .ok (.iload_n 1, 1) := by decide +kernel
theorem dX5_powerAnew_25 : decode cX5_powerAnew 25 = .ok (.invokevirtual 146, 3) := by decide +kernel
theorem dX5_powerAnew_28 : decode cX5_powerAnew 28 = .ok (.goto 4, 3) := by decide +kernel
theorem dX5_powerAnew_31 : decode cX5_powerAnew 31 = .ok (.lconst 0, 1) := by decide +kernel
theorem dX5_powerAnew_32 : decode cX5_powerAnew 32 = .ok (.lreturn, 1) := by decide +kernel
theorem dX5_findsPowers_0 : decode cX5_findsPowers 0 = .ok (.iconst 0, 1) := by decide +kernel
theorem dX5_findsPowers_1 : decode cX5_findsPowers 1 = .ok (.istore_n 2, 1) := by decide +kernel
theorem dX5_findsPowers_2 : decode cX5_findsPowers 2 = .ok (.iload_n 2, 1) := by decide +kernel
theorem dX5_findsPowers_3 : decode cX5_findsPowers 3 = .ok (.bipush 9, 2) := by decide +kernel
theorem dX5_findsPowers_5 : decode cX5_findsPowers 5 = .ok (.if_icmp .ge 23, 3) := by decide +kernel
theorem dX5_findsPowers_8 : decode cX5_findsPowers 8 = .ok (.aload_n 0, 1) := by decide +kernel
theorem dX5_findsPowers_9 : decode cX5_findsPowers 9 = .ok (.getfield 50, 3) := by decide +kernel
theorem dX5_findsPowers_12 : decode cX5_findsPowers 12 = .ok (.iload_n 2, 1) := by decide +kernel
theorem dX5_findsPowers_13 : decode cX5_findsPowers 13 = .ok (.aload_n 0, 1) := by decide +kernel
theorem dX5_findsPowers_14 : decode cX5_findsPowers 14 = .ok (.aload_n 1, 1) := by decide +kernel
theorem dX5_findsPowers_15 : decode cX5_findsPowers 15 = .ok (.iload_n 2, 1) := by decide +kernel
theorem dX5_findsPowers_16 : decode cX5_findsPowers 16 = .ok (.iconst 4, 1) := by decide +kernel
theorem dX5_findsPowers_17 : decode cX5_findsPowers 17 = .ok (.isub, 1) := by decide +kernel
theorem dX5_findsPowers_18 : decode cX5_findsPowers 18 = .ok (.invokevirtual 146, 3) := by decide +kernel
theorem dX5_findsPowers_21 : decode cX5_findsPowers 21 = .ok (.lastore, 1) := by decide +kernel
theorem dX5_findsPowers_22 : decode cX5_findsPowers 22 = .ok (.iinc 2 1, 3) := by decide +kernel
theorem dX5_findsPowers_25 : decode cX5_findsPowers 25 = .ok (.goto (-23), 3) := by decide +kernel
theorem dX5_findsPowers_28 : decode cX5_findsPowers 28 = .ok (.return_, 1) := by decide +kernel
theorem dX5_greatest_0 : decode cX5_greatest 0 = .ok (.iconst 0, 1) := by decide +kernel
theorem dX5_greatest_1 : decode cX5_greatest 1 = .ok (.istore_n 1, 1) := by decide +kernel
theorem dX5_greatest_2 : decode cX5_greatest 2 = .ok (.iconst 1, 1) := by decide +kernel
theorem dX5_greatest_3 : decode cX5_greatest 3 = .ok (.istore_n 2, 1) := by decide +kernel
theorem dX5_greatest_4 : decode cX5_greatest 4 = .ok (.iload_n 2, 1) := by decide +kernel
theorem dX5_greatest_5 : decode cX5_greatest 5 = .ok (.bipush 9, 2) := by decide +kernel
theorem dX5_greatest_7 : decode cX5_greatest 7 = .ok (.if_icmp .ge 31, 3) := by decide +kernel
theorem dX5_greatest_10 : decode cX5_greatest 10 = .ok (.aload_n 0, 1) := by decide +kernel
theorem dX5_greatest_11 : decode cX5_greatest 11 = .ok (.getfield 50, 3) := by decide +kernel
theorem dX5_greatest_14 : decode cX5_greatest 14 = .ok (.iload_n 2, 1) := by decide +kernel
theorem dX5_greatest_15 : decode cX5_greatest 15 = .ok (.laload, 1) := by decide +kernel
theorem dX5_greatest_16 : decode cX5_greatest 16 = .ok (.aload_n 0, 1) := by decide +kernel
theorem dX5_greatest_17 : decode cX5_greatest 17 = .ok (.getfield 50, 3) := by decide +kernel
theorem dX5_greatest_20 : decode cX5_greatest 20 = .ok (.iload_n 1, 1) := by decide +kernel
theorem dX5_greatest_21 : decode cX5_greatest 21 = .ok (.laload, 1) := by decide +kernel
theorem dX5_greatest_22 : decode cX5_greatest 22 = .ok (.lcmp, 1) := by decide +kernel
theorem dX5_greatest_23 : decode cX5_greatest 23 = .ok (.ifCond .le 7, 3) := by decide +kernel
theorem dX5_greatest_26 : decode cX5_greatest 26 = .ok (.iload_n 2, 1) := by decide +kernel
theorem dX5_greatest_27 : decode cX5_greatest 27 = .ok (.goto 4, 3) := by decide +kernel
theorem dX5_greatest_30 : decode cX5_greatest 30 = .ok (.iload_n 1, 1) := by decide +kernel
theorem dX5_greatest_31 : decode cX5_greatest 31 = .ok (.istore_n 1, 1) := by decide +kernel
theorem dX5_greatest_32 : decode cX5_greatest 32 = .ok (.iinc 2 1, 3) := by decide +kernel
theorem dX5_greatest_35 : decode cX5_greatest 35 = .ok (.goto (-31), 3) := by decide +kernel
theorem dX5_greatest_38 : decode cX5_greatest 38 = .ok (.iload_n 1, 1) := by decide +kernel
theorem dX5_greatest_39 : decode cX5_greatest 39 = .ok (.ireturn, 1) := by decide +kernel
theorem dX5_peaks_0 : decode cX5_peaks 0 = .ok (.aload_n 0, 1) := by decide +kernel
theorem dX5_peaks_1 : decode cX5_peaks 1 = .ok (.iload_n 1, 1) := by decide +kernel
theorem dX5_peaks_2 : decode cX5_peaks 2 = .ok (.iconst 1, 1) := by decide +kernel
theorem dX5_peaks_3 : decode cX5_peaks 3 = .ok (.bipush 100, 2) := by decide +kernel
theorem dX5_peaks_5 : decode cX5_peaks 5 = .ok (.invokestatic 64, 3) := by decide +kernel
theorem dX5_peaks_8 : decode cX5_peaks 8 = .ok (.ifCond .eq 7, 3) := by decide +kernel
theorem dX5_peaks_11 : decode cX5_peaks 11 = .ok (.iconst 0, 1) := by decide +kernel
theorem dX5_peaks_12 : decode cX5_peaks 12 = .ok (.goto 4, 3) := by decide +kernel
theorem dX5_peaks_15 : decode cX5_peaks 15 = .ok (.iconst 1, 1) := by decide +kernel
theorem dX5_peaks_16 : decode cX5_peaks 16 = .ok (.invokevirtual 74, 3) := by decide +kernel
theorem dX5_peaks_19 : decode cX5_peaks 19 = .ok (.ifCond .ne 5, 3) := by decide +kernel
theorem dX5_peaks_22 : decode cX5_peaks 22 = .ok (.iconst 0, 1) := by decide +kernel
theorem dX5_peaks_23 : decode cX5_peaks 23 = .ok (.ireturn, 1) := by decide +kernel
theorem dX5_peaks_24 : decode cX5_peaks 24 = .ok (.aload_n 0, 1) := by decide +kernel
theorem dX5_peaks_25 : decode cX5_peaks 25 = .ok (.aload_n 0, 1) := by decide +kernel
theorem dX5_peaks_26 : decode cX5_peaks 26 = .ok (.getfield 41, 3) := by decide +kernel
theorem dX5_peaks_29 : decode cX5_peaks 29 = .ok (.invokevirtual 150, 3) := by decide +kernel
theorem dX5_peaks_32 : decode cX5_peaks 32 = .ok (.aload_n 0, 1) := by decide +kernel
theorem dX5_peaks_33 : decode cX5_peaks 33 = .ok (.getfield 50, 3) := by decide +kernel
theorem dX5_peaks_36 : decode cX5_peaks 36 = .ok (.aload_n 0, 1) := by decide +kernel
theorem dX5_peaks_37 : decode cX5_peaks 37 = .ok (.invokevirtual 154, 3) := by decide +kernel
theorem dX5_peaks_40 : decode cX5_peaks 40 = .ok (.laload, 1) := by decide +kernel
theorem dX5_peaks_41 : decode cX5_peaks 41 = .ok (.lstore_n 2, 1) := by decide +kernel
theorem dX5_peaks_42 : decode cX5_peaks 42 = .ok (.iconst 0, 1) := by decide +kernel
theorem dX5_peaks_43 : decode cX5_peaks 43 = .ok (.istore 4, 2) := by decide +kernel
theorem dX5_peaks_45 : decode cX5_peaks 45 = .ok (.iconst 0, 1) := by decide +kernel
theorem dX5_peaks_46 : decode cX5_peaks 46 = .ok (.istore 5, 2) := by decide +kernel
theorem dX5_peaks_48 : decode cX5_peaks 48 = .ok (.iload 5, 2) := by decide +kernel
theorem dX5_peaks_50 : decode cX5_peaks 50 = .ok (.bipush 9, 2) := by decide +kernel
theorem dX5_peaks_52 : decode cX5_peaks 52 = .ok (.if_icmp .ge 114, 3) := by decide +kernel
theorem dX5_peaks_55 : decode cX5_peaks 55 = .ok (.iload 5, 2) := by decide +kernel
theorem dX5_peaks_57 : decode cX5_peaks 57 = .ok (.ifCond .eq 23, 3) := by decide +kernel
theorem dX5_peaks_60 : decode cX5_peaks 60 = .ok (.aload_n 0, 1) := by decide +kernel
theorem dX5_peaks_61 : decode cX5_peaks 61 = .ok (.getfield 50, 3) := by decide +kernel
theorem dX5_peaks_64 : decode cX5_peaks 64 = .ok (.iload 5, 2) := by decide +kernel
theorem dX5_peaks_66 : decode cX5_peaks 66 = .ok (.laload, 1) := by decide +kernel
theorem dX5_peaks_67 : decode cX5_peaks 67 = .ok (.aload_n 0, 1) := by decide +kernel
theorem dX5_peaks_68 : decode cX5_peaks 68 = .ok (.getfield 50, 3) := by decide +kernel
theorem dX5_peaks_71 : decode cX5_peaks 71 = .ok (.iload 5, 2) := by decide +kernel
theorem dX5_peaks_73 : decode cX5_peaks 73 = .ok (.iconst 1, 1) := by decide +kernel
theorem dX5_peaks_74 : decode cX5_peaks 74 = .ok (.isub, 1) := by decide +kernel
theorem dX5_peaks_75 : decode cX5_peaks 75 = .ok (.laload, 1) := by decide +kernel
theorem dX5_peaks_76 : decode cX5_peaks 76 = .ok (.lcmp, 1) := by decide +kernel
theorem dX5_peaks_77 : decode cX5_peaks 77 = .ok (.ifCond .le 34, 3) := by decide +kernel
theorem dX5_peaks_80 : decode cX5_peaks 80 = .ok (.iload 5, 2) := by decide +kernel
theorem dX5_peaks_82 : decode cX5_peaks 82 = .ok (.bipush 8, 2) := by decide +kernel
theorem dX5_peaks_84 : decode cX5_peaks 84 = .ok (.if_icmp .eq 23, 3) := by decide +kernel
theorem dX5_peaks_87 : decode cX5_peaks 87 = .ok (.aload_n 0, 1) := by decide +kernel
theorem dX5_peaks_88 : decode cX5_peaks 88 = .ok (.getfield 50, 3) := by decide +kernel
theorem dX5_peaks_91 : decode cX5_peaks 91 = .ok (.iload 5, 2) := by decide +kernel
theorem dX5_peaks_93 : decode cX5_peaks 93 = .ok (.laload, 1) := by decide +kernel
theorem dX5_peaks_94 : decode cX5_peaks 94 = .ok (.aload_n 0, 1) := by decide +kernel
theorem dX5_peaks_95 : decode cX5_peaks 95 = .ok (.getfield 50, 3) := by decide +kernel
theorem dX5_peaks_98 : decode cX5_peaks 98 = .ok (.iload 5, 2) := by decide +kernel
theorem dX5_peaks_100 : decode cX5_peaks 100 = .ok (.iconst 1, 1) := by decide +kernel
theorem dX5_peaks_101 : decode cX5_peaks 101 = .ok (.iadd, 1) := by decide +kernel
theorem dX5_peaks_102 : decode cX5_peaks 102 = .ok (.laload, 1) := by decide +kernel
theorem dX5_peaks_103 : decode cX5_peaks 103 = .ok (.lcmp, 1) := by decide +kernel
theorem dX5_peaks_104 : decode cX5_peaks 104 = .ok (.ifCond .le 7, 3) := by decide +kernel
theorem dX5_peaks_107 : decode cX5_peaks 107 = .ok (.iconst 1, 1) := by decide +kernel
theorem dX5_peaks_108 : decode cX5_peaks 108 = .ok (.goto 4, 3) := by decide +kernel
theorem dX5_peaks_111 : decode cX5_peaks 111 = .ok (.iconst 0, 1) := by decide +kernel
theorem dX5_peaks_112 : decode cX5_peaks 112 = .ok (.istore 6, 2) := by decide +kernel
theorem dX5_peaks_114 : decode cX5_peaks 114 = .ok (.iload 4, 2) := by decide +kernel
theorem dX5_peaks_116 : decode cX5_peaks 116 = .ok (.aload_n 0, 1) := by decide +kernel
theorem dX5_peaks_117 : decode cX5_peaks 117 = .ok (.getfield 50, 3) := by decide +kernel
theorem dX5_peaks_120 : decode cX5_peaks 120 = .ok (.iload 5, 2) := by decide +kernel
theorem dX5_peaks_122 : decode cX5_peaks 122 = .ok (.laload, 1) := by decide +kernel
theorem dX5_peaks_123 : decode cX5_peaks 123 = .ok (.lconst 0, 1) := by decide +kernel
theorem dX5_peaks_124 : decode cX5_peaks 124 = .ok (.lcmp, 1) := by decide +kernel
theorem dX5_peaks_125 : decode cX5_peaks 125 = .ok (.ifCond .le 31, 3) := by decide +kernel
theorem dX5_peaks_128 : decode cX5_peaks 128 = .ok (.iload 6, 2) := by decide +kernel
theorem dX5_peaks_130 : decode cX5_peaks 130 = .ok (.ifCond .eq 26, 3) := by decide +kernel
theorem dX5_peaks_133 : decode cX5_peaks 133 = .ok (.ldc2_w 157, 3) := by decide +kernel
theorem dX5_peaks_136 : decode cX5_peaks 136 = .ok (.aload_n 0, 1) := by decide +kernel
theorem dX5_peaks_137 : decode cX5_peaks 137 = .ok (.getfield 50, 3) := by decide +kernel
theorem dX5_peaks_140 : decode cX5_peaks 140 = .ok (.iload 5, 2) := by decide +kernel
theorem dX5_peaks_142 : decode cX5_peaks 142 = .ok (.laload, 1) := by decide +kernel
theorem dX5_peaks_143 : decode cX5_peaks 143 = .ok (.lmul, 1) := by decide +kernel
theorem dX5_peaks_144 : decode cX5_peaks 144 = .ok (.iload_n 1, 1) := by decide +kernel
theorem dX5_peaks_145 : decode cX5_peaks 145 = .ok (.i2l, 1) := by decide +kernel
theorem dX5_peaks_146 : decode cX5_peaks 146 = .ok (.lload_n 2, 1) := by decide +kernel
theorem dX5_peaks_147 : decode cX5_peaks 147 = .ok (.lmul, 1) := by decide +kernel
theorem dX5_peaks_148 : decode cX5_peaks 148 = .ok (.lcmp, 1) := by decide +kernel
theorem dX5_peaks_149 : decode cX5_peaks 149 = .ok (.ifCond .lt 7, 3) := by decide +kernel
theorem dX5_peaks_152 : decode cX5_peaks 152 = .ok (.iconst 1, 1) := by decide +kernel
theorem dX5_peaks_153 : decode cX5_peaks 153 = .ok (.goto 4, 3) := by decide +kernel
theorem dX5_peaks_156 : decode cX5_peaks 156 = .ok (.iconst 0, 1) := by decide +kernel
theorem dX5_peaks_157 : decode cX5_peaks 157 = .ok (.iadd, 1) := by decide +kernel
theorem dX5_peaks_158 : decode cX5_peaks 158 = .ok (.istore 4, 2) := by decide +kernel
theorem dX5_peaks_160 : decode cX5_peaks 160 = .ok (.iinc 5 1, 3) := by decide +kernel
theorem dX5_peaks_163 : decode cX5_peaks 163 = .ok (.goto (-115), 3) := by decide +kernel
theorem dX5_peaks_166 : decode cX5_peaks 166 = .ok (.iload 4, 2) := by decide +kernel
theorem dX5_peaks_168 : decode cX5_peaks 168 = .ok (.ireturn, 1) := by decide +kernel
theorem dX5_takes_0 : decode cX5_takes 0 = .ok (.iconst 0, 1) := by decide +kernel
theorem dX5_takes_1 : decode cX5_takes 1 = .ok (.istore_n 2, 1) := by decide +kernel
theorem dX5_takes_2 : decode cX5_takes 2 = .ok (.iconst 0, 1) := by decide +kernel
theorem dX5_takes_3 : decode cX5_takes 3 = .ok (.istore_n 3, 1) := by decide +kernel
theorem dX5_takes_4 : decode cX5_takes 4 = .ok (.iload_n 3, 1) := by decide +kernel
theorem dX5_takes_5 : decode cX5_takes 5 = .ok (.aload_n 0, 1) := by decide +kernel
theorem dX5_takes_6 : decode cX5_takes 6 = .ok (.getfield 61, 3) := by decide +kernel
theorem dX5_takes_9 : decode cX5_takes 9 = .ok (.if_icmp .ge 17, 3) := by decide +kernel
theorem dX5_takes_12 : decode cX5_takes 12 = .ok (.iload_n 2, 1) := by decide +kernel
theorem dX5_takes_13 : decode cX5_takes 13 = .ok (.aload_n 0, 1) := by decide +kernel
theorem dX5_takes_14 : decode cX5_takes 14 = .ok (.iload_n 3, 1) := by decide +kernel
theorem dX5_takes_15 : decode cX5_takes 15 = .ok (.invokevirtual 119, 3) := by decide +kernel
theorem dX5_takes_18 : decode cX5_takes 18 = .ok (.iadd, 1) := by decide +kernel
theorem dX5_takes_19 : decode cX5_takes 19 = .ok (.istore_n 2, 1) := by decide +kernel
theorem dX5_takes_20 : decode cX5_takes 20 = .ok (.iinc 3 1, 3) := by decide +kernel
theorem dX5_takes_23 : decode cX5_takes 23 = .ok (.goto (-19), 3) := by decide +kernel
theorem dX5_takes_26 : decode cX5_takes 26 = .ok (.iconst 0, 1) := by decide +kernel
theorem dX5_takes_27 : decode cX5_takes 27 = .ok (.istore_n 3, 1) := by decide +kernel
theorem dX5_takes_28 : decode cX5_takes 28 = .ok (.iload_n 3, 1) := by decide +kernel
theorem dX5_takes_29 : decode cX5_takes 29 = .ok (.bipush 32, 2) := by decide +kernel
theorem dX5_takes_31 : decode cX5_takes 31 = .ok (.if_icmp .ge 41, 3) := by decide +kernel
theorem dX5_takes_34 : decode cX5_takes 34 = .ok (.aload_n 0, 1) := by decide +kernel
theorem dX5_takes_35 : decode cX5_takes 35 = .ok (.getfield 47, 3) := by decide +kernel
theorem dX5_takes_38 : decode cX5_takes 38 = .ok (.iload_n 3, 1) := by decide +kernel
theorem dX5_takes_39 : decode cX5_takes 39 = .ok (.aload_n 0, 1) := by decide +kernel
theorem dX5_takes_40 : decode cX5_takes 40 = .ok (.aload_n 0, 1) := by decide +kernel
theorem dX5_takes_41 : decode cX5_takes 41 = .ok (.getfield 44, 3) := by decide +kernel
theorem dX5_takes_44 : decode cX5_takes 44 = .ok (.iload_n 1, 1) := by decide +kernel
theorem dX5_takes_45 : decode cX5_takes 45 = .ok (.aload_n 0, 1) := by decide +kernel
theorem dX5_takes_46 : decode cX5_takes 46 = .ok (.getfield 78, 3) := by decide +kernel
theorem dX5_takes_49 : decode cX5_takes 49 = .ok (.iconst 1, 1) := by decide +kernel
theorem dX5_takes_50 : decode cX5_takes 50 = .ok (.isub, 1) := by decide +kernel
theorem dX5_takes_51 : decode cX5_takes 51 = .ok (.bipush 47, 2) := by decide +kernel
theorem dX5_takes_53 : decode cX5_takes 53 = .ok (.isub, 1) := by decide +kernel
theorem dX5_takes_54 : decode cX5_takes 54 = .ok (.iload_n 3, 1) := by decide +kernel
theorem dX5_takes_55 : decode cX5_takes 55 = .ok (.iadd, 1) := by decide +kernel
theorem dX5_takes_56 : decode cX5_takes 56 = .ok (.invokevirtual 123, 3) := by decide +kernel
theorem dX5_takes_59 : decode cX5_takes 59 = .ok (.iload_n 2, 1) := by decide +kernel
theorem dX5_takes_60 : decode cX5_takes 60 = .ok (.i2l, 1) := by decide +kernel
theorem dX5_takes_61 : decode cX5_takes 61 = .ok (.invokestatic 70, 3) := by decide +kernel
theorem dX5_takes_64 : decode cX5_takes 64 = .ok (.l2i, 1) := by decide +kernel
theorem dX5_takes_65 : decode cX5_takes 65 = .ok (.iastore, 1) := by decide +kernel
theorem dX5_takes_66 : decode cX5_takes 66 = .ok (.iinc 3 1, 3) := by decide +kernel
theorem dX5_takes_69 : decode cX5_takes 69 = .ok (.goto (-41), 3) := by decide +kernel
theorem dX5_takes_72 : decode cX5_takes 72 = .ok (.iconst 0, 1) := by decide +kernel
theorem dX5_takes_73 : decode cX5_takes 73 = .ok (.istore_n 3, 1) := by decide +kernel
theorem dX5_takes_74 : decode cX5_takes 74 = .ok (.iload_n 3, 1) := by decide +kernel
theorem dX5_takes_75 : decode cX5_takes 75 = .ok (.bipush 32, 2) := by decide +kernel
theorem dX5_takes_77 : decode cX5_takes 77 = .ok (.if_icmp .ge 102, 3) := by decide +kernel
theorem dX5_takes_80 : decode cX5_takes 80 = .ok (.iconst 0, 1) := by decide +kernel
theorem dX5_takes_81 : decode cX5_takes 81 = .ok (.istore 4, 2) := by decide +kernel
theorem dX5_takes_83 : decode cX5_takes 83 = .ok (.iload 4, 2) := by decide +kernel
theorem dX5_takes_85 : decode cX5_takes 85 = .ok (.aload_n 0, 1) := by decide +kernel
theorem dX5_takes_86 : decode cX5_takes 86 = .ok (.getfield 61, 3) := by decide +kernel
theorem dX5_takes_89 : decode cX5_takes 89 = .ok (.if_icmp .ge 84, 3) := by decide +kernel
theorem dX5_takes_92 : decode cX5_takes 92 = .ok (.aload_n 0, 1) := by decide +kernel
theorem dX5_takes_93 : decode cX5_takes 93 = .ok (.getfield 78, 3) := by decide +kernel
theorem dX5_takes_96 : decode cX5_takes 96 = .ok (.iconst 1, 1) := by decide +kernel
theorem dX5_takes_97 : decode cX5_takes 97 = .ok (.isub, 1) := by decide +kernel
theorem dX5_takes_98 : decode cX5_takes 98 = .ok (.bipush 47, 2) := by decide +kernel
theorem dX5_takes_100 : decode cX5_takes 100 = .ok (.isub, 1) := by decide +kernel
theorem dX5_takes_101 : decode cX5_takes 101 = .ok (.iload_n 3, 1) := by decide +kernel
theorem dX5_takes_102 : decode cX5_takes 102 = .ok (.iadd, 1) := by decide +kernel
theorem dX5_takes_103 : decode cX5_takes 103 = .ok (.aload_n 0, 1) := by decide +kernel
theorem dX5_takes_104 : decode cX5_takes 104 = .ok (.iload 4, 2) := by decide +kernel
theorem dX5_takes_106 : decode cX5_takes 106 = .ok (.iload_n 1, 1) := by decide +kernel
theorem dX5_takes_107 : decode cX5_takes 107 = .ok (.invokevirtual 94, 3) := by decide +kernel
theorem dX5_takes_110 : decode cX5_takes 110 = .ok (.iadd, 1) := by decide +kernel
theorem dX5_takes_111 : decode cX5_takes 111 = .ok (.aload_n 0, 1) := by decide +kernel
theorem dX5_takes_112 : decode cX5_takes 112 = .ok (.getfield 29, 3) := by decide +kernel
theorem dX5_takes_115 : decode cX5_takes 115 = .ok (.iload 4, 2) := by decide +kernel
theorem dX5_takes_117 : decode cX5_takes 117 = .ok (.iaload, 1) := by decide +kernel
theorem dX5_takes_118 : decode cX5_takes 118 = .ok (.iadd, 1) := by decide +kernel
theorem dX5_takes_119 : decode cX5_takes 119 = .ok (.istore 5, 2) := by decide +kernel
theorem dX5_takes_121 : decode cX5_takes 121 = .ok (.aload_n 0, 1) := by decide +kernel
theorem dX5_takes_122 : decode cX5_takes 122 = .ok (.getfield 22, 3) := by decide +kernel
theorem dX5_takes_125 : decode cX5_takes 125 = .ok (.iload 4, 2) := by decide +kernel
theorem dX5_takes_127 : decode cX5_takes 127 = .ok (.baload, 1) := by decide +kernel
theorem dX5_takes_128 : decode cX5_takes 128 = .ok (.ifCond .eq 39, 3) := by decide +kernel
theorem dX5_takes_131 : decode cX5_takes 131 = .ok (.aload_n 0, 1) := by decide +kernel
theorem dX5_takes_132 : decode cX5_takes 132 = .ok (.iload 4, 2) := by decide +kernel
theorem dX5_takes_134 : decode cX5_takes 134 = .ok (.iload 5, 2) := by decide +kernel
theorem dX5_takes_136 : decode cX5_takes 136 = .ok (.invokevirtual 111, 3) := by decide +kernel
theorem dX5_takes_139 : decode cX5_takes 139 = .ok (.ifCond .eq 28, 3) := by decide +kernel
theorem dX5_takes_142 : decode cX5_takes 142 = .ok (.aload_n 0, 1) := by decide +kernel
theorem dX5_takes_143 : decode cX5_takes 143 = .ok (.getfield 44, 3) := by decide +kernel
theorem dX5_takes_146 : decode cX5_takes 146 = .ok (.bipush 64, 2) := by decide +kernel
theorem dX5_takes_148 : decode cX5_takes 148 = .ok (.iload 4, 2) := by decide +kernel
theorem dX5_takes_150 : decode cX5_takes 150 = .ok (.imul, 1) := by decide +kernel
theorem dX5_takes_151 : decode cX5_takes 151 = .ok (.iload 5, 2) := by decide +kernel
theorem dX5_takes_153 : decode cX5_takes 153 = .ok (.bipush 64, 2) := by decide +kernel
theorem dX5_takes_155 : decode cX5_takes 155 = .ok (.irem, 1) := by decide +kernel
theorem dX5_takes_156 : decode cX5_takes 156 = .ok (.iadd, 1) := by decide +kernel
theorem dX5_takes_157 : decode cX5_takes 157 = .ok (.dup2, 1) := by decide +kernel
theorem dX5_takes_158 : decode cX5_takes 158 = .ok (.iaload, 1) := by decide +kernel
theorem dX5_takes_159 : decode cX5_takes 159 = .ok (.aload_n 0, 1) := by decide +kernel
theorem dX5_takes_160 : decode cX5_takes 160 = .ok (.getfield 47, 3) := by decide +kernel
theorem dX5_takes_163 : decode cX5_takes 163 = .ok (.iload_n 3, 1) := by decide +kernel
theorem dX5_takes_164 : decode cX5_takes 164 = .ok (.iaload, 1) := by decide +kernel
theorem dX5_takes_165 : decode cX5_takes 165 = .ok (.isub, 1) := by decide +kernel
theorem dX5_takes_166 : decode cX5_takes 166 = .ok (.iastore, 1) := by decide +kernel
theorem dX5_takes_167 : decode cX5_takes 167 = .ok (.iinc 4 1, 3) := by decide +kernel
theorem dX5_takes_170 : decode cX5_takes 170 = .ok (.goto (-87), 3) := by decide +kernel
theorem dX5_takes_173 : decode cX5_takes 173 = .ok (.iinc 3 1, 3) := by decide +kernel
theorem dX5_takes_176 : decode cX5_takes 176 = .ok (.goto (-102), 3) := by decide +kernel
theorem dX5_takes_179 : decode cX5_takes 179 = .ok (.return_, 1) := by decide +kernel
theorem dX5_found_0 : decode cX5_found 0 = .ok (.aload_n 0, 1) := by decide +kernel
theorem dX5_found_1 : decode cX5_found 1 = .ok (.iload_n 1, 1) := by decide +kernel
theorem dX5_found_2 : decode cX5_found 2 = .ok (.iconst 0, 1) := by decide +kernel
theorem dX5_found_3 : decode cX5_found 3 = .ok (.iconst 5, 1) := by decide +kernel
theorem dX5_found_4 : decode cX5_found 4 = .ok (.invokestatic 64, 3) := by decide +kernel
theorem dX5_found_7 : decode cX5_found 7 = .ok (.ifCond .eq 7, 3) := by decide +kernel
theorem dX5_found_10 : decode cX5_found 10 = .ok (.iconst 0, 1) := by decide +kernel
theorem dX5_found_11 : decode cX5_found 11 = .ok (.goto 4, 3) := by decide +kernel
theorem dX5_found_14 : decode cX5_found 14 = .ok (.iconst 1, 1) := by decide +kernel
theorem dX5_found_15 : decode cX5_found 15 = .ok (.invokevirtual 74, 3) := by decide +kernel
theorem dX5_found_18 : decode cX5_found 18 = .ok (.ifCond .ne 5, 3) := by decide +kernel
theorem dX5_found_21 : decode cX5_found 21 = .ok (.iconst 0, 1) := by decide +kernel
theorem dX5_found_22 : decode cX5_found 22 = .ok (.ireturn, 1) := by decide +kernel
theorem dX5_found_23 : decode cX5_found 23 = .ok (.iconst 0, 1) := by decide +kernel
theorem dX5_found_24 : decode cX5_found 24 = .ok (.istore_n 2, 1) := by decide +kernel
theorem dX5_found_25 : decode cX5_found 25 = .ok (.iload_n 2, 1) := by decide +kernel
theorem dX5_found_26 : decode cX5_found 26 = .ok (.sipush 512, 3) := by decide +kernel
theorem dX5_found_29 : decode cX5_found 29 = .ok (.if_icmp .ge 21, 3) := by decide +kernel
theorem dX5_found_32 : decode cX5_found 32 = .ok (.aload_n 0, 1) := by decide +kernel
theorem dX5_found_33 : decode cX5_found 33 = .ok (.getfield 44, 3) := by decide +kernel
theorem dX5_found_36 : decode cX5_found 36 = .ok (.iload_n 2, 1) := by decide +kernel
theorem dX5_found_37 : decode cX5_found 37 = .ok (.aload_n 0, 1) := by decide +kernel
theorem dX5_found_38 : decode cX5_found 38 = .ok (.getfield 41, 3) := by decide +kernel
theorem dX5_found_41 : decode cX5_found 41 = .ok (.iload_n 2, 1) := by decide +kernel
theorem dX5_found_42 : decode cX5_found 42 = .ok (.iaload, 1) := by decide +kernel
theorem dX5_found_43 : decode cX5_found 43 = .ok (.iastore, 1) := by decide +kernel
theorem dX5_found_44 : decode cX5_found 44 = .ok (.iinc 2 1, 3) := by decide +kernel
theorem dX5_found_47 : decode cX5_found 47 = .ok (.goto (-22), 3) := by decide +kernel
theorem dX5_found_50 : decode cX5_found 50 = .ok (.iconst 0, 1) := by decide +kernel
theorem dX5_found_51 : decode cX5_found 51 = .ok (.istore_n 2, 1) := by decide +kernel
theorem dX5_found_52 : decode cX5_found 52 = .ok (.iload_n 2, 1) := by decide +kernel
theorem dX5_found_53 : decode cX5_found 53 = .ok (.iload_n 1, 1) := by decide +kernel
theorem dX5_found_54 : decode cX5_found 54 = .ok (.if_icmp .gt 52, 3) := by decide +kernel
theorem dX5_found_57 : decode cX5_found 57 = .ok (.aload_n 0, 1) := by decide +kernel
theorem dX5_found_58 : decode cX5_found 58 = .ok (.aload_n 0, 1) := by decide +kernel
theorem dX5_found_59 : decode cX5_found 59 = .ok (.getfield 44, 3) := by decide +kernel
theorem dX5_found_62 : decode cX5_found 62 = .ok (.invokevirtual 150, 3) := by decide +kernel
theorem dX5_found_65 : decode cX5_found 65 = .ok (.aload_n 0, 1) := by decide +kernel
theorem dX5_found_66 : decode cX5_found 66 = .ok (.invokevirtual 154, 3) := by decide +kernel
theorem dX5_found_69 : decode cX5_found 69 = .ok (.istore_n 3, 1) := by decide +kernel
theorem dX5_found_70 : decode cX5_found 70 = .ok (.aload_n 0, 1) := by decide +kernel
theorem dX5_found_71 : decode cX5_found 71 = .ok (.getfield 50, 3) := by decide +kernel
theorem dX5_found_74 : decode cX5_found 74 = .ok (.iload_n 3, 1) := by decide +kernel
theorem dX5_found_75 : decode cX5_found 75 = .ok (.laload, 1) := by decide +kernel
theorem dX5_found_76 : decode cX5_found 76 = .ok (.lconst 0, 1) := by decide +kernel
