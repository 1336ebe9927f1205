theorem dX4_window_20 : decode cX4_window 20 = .ok (.getfield 37, 3) := by decide +kernel
theorem dX4_window_23 : decode cX4_window 23 = .ok (.istore_n 2, 1) := by decide +kernel
theorem dX4_window_24 : decode cX4_window 24 = .ok (.aload_n 0, 1) := by decide +kernel
theorem dX4_window_25 : decode cX4_window 25 = .ok (.iload_n 1, 1) := by decide +kernel
theorem dX4_window_26 : decode cX4_window 26 = .ok (.putfield 37, 3) := by decide +kernel
theorem dX4_window_29 : decode cX4_window 29 = .ok (.iload_n 2, 1) := by decide +kernel
theorem dX4_window_30 : decode cX4_window 30 = .ok (.ireturn, 1) := by decide +kernel
theorem dX4_calibrate_0 : decode cX4_calibrate 0 = .ok (.iload_n 1, 1) := by decide +kernel
theorem dX4_calibrate_1 : decode cX4_calibrate 1 = .ok (.invokestatic 84, 3) := by decide +kernel
theorem dX4_calibrate_4 : decode cX4_calibrate 4 = .ok (.ifCond .ne 13, 3) := by decide +kernel
theorem dX4_calibrate_7 : decode cX4_calibrate 7 = .ok (.new 71, 3) := by decide +kernel
theorem dX4_calibrate_10 : decode cX4_calibrate 10 = .ok (.dup, 1) := by decide +kernel
theorem dX4_calibrate_11 : decode cX4_calibrate 11 = .ok (.ldc 87, 2) := by decide +kernel
theorem dX4_calibrate_13 : decode cX4_calibrate 13 = .ok (.invokespecial 75, 3) := by decide +kernel
theorem dX4_calibrate_16 : decode cX4_calibrate 16 = .ok (.athrow, 1) := by decide +kernel
theorem dX4_calibrate_17 : decode cX4_calibrate 17 = .ok (.aload_n 0, 1) := by decide +kernel
theorem dX4_calibrate_18 : decode cX4_calibrate 18 = .ok (.invokevirtual 118, 3) := by decide +kernel
theorem dX4_calibrate_21 : decode cX4_calibrate 21 = .ok (.astore_n 2, 1) := by decide +kernel
theorem dX4_calibrate_22 : decode cX4_calibrate 22 = .ok (.aload_n 2, 1) := by decide +kernel
theorem dX4_calibrate_23 : decode cX4_calibrate 23 = .ok (.ifnonnull 13, 3) := by decide +kernel
theorem dX4_calibrate_26 : decode cX4_calibrate 26 = .ok (.new 55, 3) := by decide +kernel
theorem dX4_calibrate_29 : decode cX4_calibrate 29 = .ok (.dup, 1) := by decide +kernel
theorem dX4_calibrate_30 : decode cX4_calibrate 30 = .ok (.ldc 122, 2) := by decide +kernel
theorem dX4_calibrate_32 : decode cX4_calibrate 32 = .ok (.invokespecial 59, 3) := by decide +kernel
theorem dX4_calibrate_35 : decode cX4_calibrate 35 = .ok (.athrow, 1) := by decide +kernel
theorem dX4_calibrate_36 : decode cX4_calibrate 36 = .ok (.aload_n 0, 1) := by decide +kernel
theorem dX4_calibrate_37 : decode cX4_calibrate 37 = .ok (.invokevirtual 124, 3) := by decide +kernel
theorem dX4_calibrate_40 : decode cX4_calibrate 40 = .ok (.pop2, 1) := by decide +kernel
theorem dX4_calibrate_41 : decode cX4_calibrate 41 = .ok (.aload_n 2, 1) := by decide +kernel
theorem dX4_calibrate_42 : decode cX4_calibrate 42 = .ok (.aload_n 2, 1) := by decide +kernel
theorem dX4_calibrate_43 : decode cX4_calibrate 43 = .ok (.iload_n 1, 1) := by decide +kernel
theorem dX4_calibrate_44 : decode cX4_calibrate 44 = .ok (.iconst 0, 1) := by decide +kernel
theorem dX4_calibrate_45 : decode cX4_calibrate 45 = .ok (.invokevirtual 128, 3) := by decide +kernel
theorem dX4_calibrate_48 : decode cX4_calibrate 48 = .ok (.lstore_n 3, 1) := by decide +kernel
theorem dX4_calibrate_49 : decode cX4_calibrate 49 = .ok (.lload_n 3, 1) := by decide +kernel
theorem dX4_calibrate_50 : decode cX4_calibrate 50 = .ok (.lconst 0, 1) := by decide +kernel
theorem dX4_calibrate_51 : decode cX4_calibrate 51 = .ok (.lcmp, 1) := by decide +kernel
theorem dX4_calibrate_52 : decode cX4_calibrate 52 = .ok (.ifCond .gt 13, 3) := by decide +kernel
theorem dX4_calibrate_55 : decode cX4_calibrate 55 = .ok (.new 55, 3) := by decide +kernel
theorem dX4_calibrate_58 : decode cX4_calibrate 58 = .ok (.dup, 1) := by decide +kernel
theorem dX4_calibrate_59 : decode cX4_calibrate 59 = .ok (.ldc 132, 2) := by decide +kernel
theorem dX4_calibrate_61 : decode cX4_calibrate 61 = .ok (.invokespecial 59, 3) := by decide +kernel
theorem dX4_calibrate_64 : decode cX4_calibrate 64 = .ok (.athrow, 1) := by decide +kernel
theorem dX4_calibrate_65 : decode cX4_calibrate 65 = .ok (.aload_n 0, 1) := by decide +kernel
theorem dX4_calibrate_66 : decode cX4_calibrate 66 = .ok (.aload_n 2, 1) := by decide +kernel
theorem dX4_calibrate_67 : decode cX4_calibrate 67 = .ok (.lload_n 3, 1) := by decide +kernel
theorem dX4_calibrate_68 : decode cX4_calibrate 68 = .ok (.iload_n 1, 1) := by decide +kernel
theorem dX4_calibrate_69 : decode cX4_calibrate 69 = .ok (.invokevirtual 134, 3) := by decide +kernel
theorem dX4_calibrate_72 : decode cX4_calibrate 72 = .ok (.ireturn, 1) := by decide +kernel
theorem dX4_sample_0 : decode cX4_sample 0 = .ok (.aload_n 0, 1) := by decide +kernel
theorem dX4_sample_1 : decode cX4_sample 1 = .ok (.iload_n 1, 1) := by decide +kernel
theorem dX4_sample_2 : decode cX4_sample 2 = .ok (.invokevirtual 67, 3) := by decide +kernel
theorem dX4_sample_5 : decode cX4_sample 5 = .ok (.ifCond .eq 13, 3) := by decide +kernel
theorem dX4_sample_8 : decode cX4_sample 8 = .ok (.iload_n 2, 1) := by decide +kernel
theorem dX4_sample_9 : decode cX4_sample 9 = .ok (.iconst 0, 1) := by decide +kernel
theorem dX4_sample_10 : decode cX4_sample 10 = .ok (.bipush 63, 2) := by decide +kernel
theorem dX4_sample_12 : decode cX4_sample 12 = .ok (.invokestatic 41, 3) := by decide +kernel
theorem dX4_sample_15 : decode cX4_sample 15 = .ok (.ifCond .ne 13, 3) := by decide +kernel
theorem dX4_sample_18 : decode cX4_sample 18 = .ok (.new 71, 3) := by decide +kernel
theorem dX4_sample_21 : decode cX4_sample 21 = .ok (.dup, 1) := by decide +kernel
theorem dX4_sample_22 : decode cX4_sample 22 = .ok (.ldc 138, 2) := by decide +kernel
theorem dX4_sample_24 : decode cX4_sample 24 = .ok (.invokespecial 75, 3) := by decide +kernel
theorem dX4_sample_27 : decode cX4_sample 27 = .ok (.athrow, 1) := by decide +kernel
theorem dX4_sample_28 : decode cX4_sample 28 = .ok (.aload_n 0, 1) := by decide +kernel
theorem dX4_sample_29 : decode cX4_sample 29 = .ok (.getfield 11, 3) := by decide +kernel
theorem dX4_sample_32 : decode cX4_sample 32 = .ok (.iload_n 1, 1) := by decide +kernel
theorem dX4_sample_33 : decode cX4_sample 33 = .ok (.aaload, 1) := by decide +kernel
theorem dX4_sample_34 : decode cX4_sample 34 = .ok (.iload_n 2, 1) := by decide +kernel
theorem dX4_sample_35 : decode cX4_sample 35 = .ok (.invokevirtual 140, 3) := by decide +kernel
theorem dX4_sample_38 : decode cX4_sample 38 = .ok (.ireturn, 1) := by decide +kernel
theorem dX4_sum_0 : decode cX4_sum 0 = .ok (.iload_n 1, 1) := by decide +kernel
theorem dX4_sum_1 : decode cX4_sum 1 = .ok (.invokestatic 84, 3) := by decide +kernel
theorem dX4_sum_4 : decode cX4_sum 4 = .ok (.ifCond .eq 14, 3) := by decide +kernel
theorem dX4_sum_7 : decode cX4_sum 7 = .ok (.iload_n 2, 1) := by decide +kernel
theorem dX4_sum_8 : decode cX4_sum 8 = .ok (.bipush 16, 2) := by decide +kernel
theorem dX4_sum_10 : decode cX4_sum 10 = .ok (.bipush 47, 2) := by decide +kernel
theorem dX4_sum_12 : decode cX4_sum 12 = .ok (.invokestatic 41, 3) := by decide +kernel
theorem dX4_sum_15 : decode cX4_sum 15 = .ok (.ifCond .ne 13, 3) := by decide +kernel
theorem dX4_sum_18 : decode cX4_sum 18 = .ok (.new 71, 3) := by decide +kernel
theorem dX4_sum_21 : decode cX4_sum 21 = .ok (.dup, 1) := by decide +kernel
theorem dX4_sum_22 : decode cX4_sum 22 = .ok (.ldc 144, 2) := by decide +kernel
theorem dX4_sum_24 : decode cX4_sum 24 = .ok (.invokespecial 75, 3) := by decide +kernel
theorem dX4_sum_27 : decode cX4_sum 27 = .ok (.athrow, 1) := by decide +kernel
theorem dX4_sum_28 : decode cX4_sum 28 = .ok (.aload_n 0, 1) := by decide +kernel
theorem dX4_sum_29 : decode cX4_sum 29 = .ok (.invokevirtual 124, 3) := by decide +kernel
theorem dX4_sum_32 : decode cX4_sum 32 = .ok (.pop2, 1) := by decide +kernel
theorem dX4_sum_33 : decode cX4_sum 33 = .ok (.aload_n 0, 1) := by decide +kernel
theorem dX4_sum_34 : decode cX4_sum 34 = .ok (.iload_n 1, 1) := by decide +kernel
theorem dX4_sum_35 : decode cX4_sum 35 = .ok (.invokevirtual 146, 3) := by decide +kernel
theorem dX4_sum_38 : decode cX4_sum 38 = .ok (.bipush 47, 2) := by decide +kernel
theorem dX4_sum_40 : decode cX4_sum 40 = .ok (.iload_n 2, 1) := by decide +kernel
theorem dX4_sum_41 : decode cX4_sum 41 = .ok (.isub, 1) := by decide +kernel
theorem dX4_sum_42 : decode cX4_sum 42 = .ok (.istore_n 3, 1) := by decide +kernel
theorem dX4_sum_43 : decode cX4_sum 43 = .ok (.iload_n 3, 1) := by decide +kernel
theorem dX4_sum_44 : decode cX4_sum 44 = .ok (.ifCond .lt 21, 3) := by decide +kernel
theorem dX4_sum_47 : decode cX4_sum 47 = .ok (.iload_n 3, 1) := by decide +kernel
theorem dX4_sum_48 : decode cX4_sum 48 = .ok (.aload_n 0, 1) := by decide +kernel
theorem dX4_sum_49 : decode cX4_sum 49 = .ok (.getfield 28, 3) := by decide +kernel
theorem dX4_sum_52 : decode cX4_sum 52 = .ok (.arraylength, 1) := by decide +kernel
theorem dX4_sum_53 : decode cX4_sum 53 = .ok (.if_icmp .ge 12, 3) := by decide +kernel
theorem dX4_sum_56 : decode cX4_sum 56 = .ok (.aload_n 0, 1) := by decide +kernel
theorem dX4_sum_57 : decode cX4_sum 57 = .ok (.getfield 28, 3) := by decide +kernel
theorem dX4_sum_60 : decode cX4_sum 60 = .ok (.iload_n 3, 1) := by decide +kernel
theorem dX4_sum_61 : decode cX4_sum 61 = .ok (.laload, 1) := by decide +kernel
theorem dX4_sum_62 : decode cX4_sum 62 = .ok (.goto 4, 3) := by decide +kernel
theorem dX4_sum_65 : decode cX4_sum 65 = .ok (.lconst 0, 1) := by decide +kernel
theorem dX4_sum_66 : decode cX4_sum 66 = .ok (.lreturn, 1) := by decide +kernel
theorem dX4_power_0 : decode cX4_power 0 = .ok (.iload_n 1, 1) := by decide +kernel
theorem dX4_power_1 : decode cX4_power 1 = .ok (.invokestatic 84, 3) := by decide +kernel
theorem dX4_power_4 : decode cX4_power 4 = .ok (.ifCond .ne 13, 3) := by decide +kernel
theorem dX4_power_7 : decode cX4_power 7 = .ok (.new 71, 3) := by decide +kernel
theorem dX4_power_10 : decode cX4_power 10 = .ok (.dup, 1) := by decide +kernel
theorem dX4_power_11 : decode cX4_power 11 = .ok (.ldc 87, 2) := by decide +kernel
theorem dX4_power_13 : decode cX4_power 13 = .ok (.invokespecial 75, 3) := by decide +kernel
theorem dX4_power_16 : decode cX4_power 16 = .ok (.athrow, 1) := by decide +kernel
theorem dX4_power_17 : decode cX4_power 17 = .ok (.aload_n 0, 1) := by decide +kernel
theorem dX4_power_18 : decode cX4_power 18 = .ok (.invokevirtual 124, 3) := by decide +kernel
theorem dX4_power_21 : decode cX4_power 21 = .ok (.pop2, 1) := by decide +kernel
theorem dX4_power_22 : decode cX4_power 22 = .ok (.aload_n 0, 1) := by decide +kernel
theorem dX4_power_23 : decode cX4_power 23 = .ok (.iload_n 1, 1) := by decide +kernel
theorem dX4_power_24 : decode cX4_power 24 = .ok (.invokevirtual 150, 3) := by decide +kernel
theorem dX4_power_27 : decode cX4_power 27 = .ok (.lreturn, 1) := by decide +kernel
theorem dX4_powerAnew_0 : decode cX4_powerAnew 0 = .ok (.iload_n 1, 1) := by decide +kernel
theorem dX4_powerAnew_1 : decode cX4_powerAnew 1 = .ok (.invokestatic 84, 3) := by decide +kernel
theorem dX4_powerAnew_4 : decode cX4_powerAnew 4 = .ok (.ifCond .ne 13, 3) := by decide +kernel
theorem dX4_powerAnew_7 : decode cX4_powerAnew 7 = .ok (.new 71, 3) := by decide +kernel
theorem dX4_powerAnew_10 : decode cX4_powerAnew 10 = .ok (.dup, 1) := by decide +kernel
theorem dX4_powerAnew_11 : decode cX4_powerAnew 11 = .ok (.ldc 87, 2) := by decide +kernel
theorem dX4_powerAnew_13 : decode cX4_powerAnew 13 = .ok (.invokespecial 75, 3) := by decide +kernel
theorem dX4_powerAnew_16 : decode cX4_powerAnew 16 = .ok (.athrow, 1) := by decide +kernel
theorem dX4_powerAnew_17 : decode cX4_powerAnew 17 = .ok (.aload_n 0, 1) := by decide +kernel
theorem dX4_powerAnew_18 : decode cX4_powerAnew 18 = .ok (.invokevirtual 124, 3) := by decide +kernel
theorem dX4_powerAnew_21 : decode cX4_powerAnew 21 = .ok (.pop2, 1) := by decide +kernel
theorem dX4_powerAnew_22 : decode cX4_powerAnew 22 = .ok (.aload_n 0, 1) := by decide +kernel
theorem dX4_powerAnew_23 : decode cX4_powerAnew 23 = .ok (.iload_n 1, 1) := by decide +kernel
theorem dX4_powerAnew_24 : decode cX4_powerAnew 24 = .ok (.invokevirtual 154, 3) := by decide +kernel
theorem dX4_powerAnew_27 : decode cX4_powerAnew 27 = .ok (.lreturn, 1) := by decide +kernel
theorem dX4_peaks_0 : decode cX4_peaks 0 = .ok (.iload_n 1, 1) := by decide +kernel
theorem dX4_peaks_1 : decode cX4_peaks 1 = .ok (.iconst 1, 1) := by decide +kernel
theorem dX4_peaks_2 : decode cX4_peaks 2 = .ok (.bipush 100, 2) := by decide +kernel
theorem dX4_peaks_4 : decode cX4_peaks 4 = .ok (.invokestatic 41, 3) := by decide +kernel
theorem dX4_peaks_7 : decode cX4_peaks 7 = .ok (.ifCond .ne 13, 3) := by decide +kernel
theorem dX4_peaks_10 : decode cX4_peaks 10 = .ok (.new 45, 3) := by decide +kernel
theorem dX4_peaks_13 : decode cX4_peaks 13 = .ok (.dup, 1) := by decide +kernel
theorem dX4_peaks_14 : decode cX4_peaks 14 = .ok (.ldc 157, 2) := by decide +kernel
theorem dX4_peaks_16 : decode cX4_peaks 16 = .ok (.invokespecial 49, 3) := by decide +kernel
theorem dX4_peaks_19 : decode cX4_peaks 19 = .ok (.athrow, 1) := by decide +kernel
theorem dX4_peaks_20 : decode cX4_peaks 20 = .ok (.aload_n 0, 1) := by decide +kernel
theorem dX4_peaks_21 : decode cX4_peaks 21 = .ok (.invokevirtual 124, 3) := by decide +kernel
theorem dX4_peaks_24 : decode cX4_peaks 24 = .ok (.pop2, 1) := by decide +kernel
theorem dX4_peaks_25 : decode cX4_peaks 25 = .ok (.aload_n 0, 1) := by decide +kernel
theorem dX4_peaks_26 : decode cX4_peaks 26 = .ok (.invokevirtual 159, 3) := by decide +kernel
theorem dX4_peaks_29 : decode cX4_peaks 29 = .ok (.lstore_n 2, 1) := by decide +kernel
theorem dX4_peaks_30 : decode cX4_peaks 30 = .ok (.iconst 0, 1) := by decide +kernel
theorem dX4_peaks_31 : decode cX4_peaks 31 = .ok (.istore 4, 2) := by decide +kernel
theorem dX4_peaks_33 : decode cX4_peaks 33 = .ok (.iconst 0, 1) := by decide +kernel
theorem dX4_peaks_34 : decode cX4_peaks 34 = .ok (.istore 5, 2) := by decide +kernel
theorem dX4_peaks_36 : decode cX4_peaks 36 = .ok (.iload 5, 2) := by decide +kernel
theorem dX4_peaks_38 : decode cX4_peaks 38 = .ok (.aload_n 0, 1) := by decide +kernel
theorem dX4_peaks_39 : decode cX4_peaks 39 = .ok (.getfield 32, 3) := by decide +kernel
theorem dX4_peaks_42 : decode cX4_peaks 42 = .ok (.arraylength, 1) := by decide +kernel
theorem dX4_peaks_43 : decode cX4_peaks 43 = .ok (.if_icmp .ge 40, 3) := by decide +kernel
theorem dX4_peaks_46 : decode cX4_peaks 46 = .ok (.aload_n 0, 1) := by decide +kernel
theorem dX4_peaks_47 : decode cX4_peaks 47 = .ok (.iload 5, 2) := by decide +kernel
theorem dX4_peaks_49 : decode cX4_peaks 49 = .ok (.invokevirtual 162, 3) := by decide +kernel
theorem dX4_peaks_52 : decode cX4_peaks 52 = .ok (.ifCond .eq 25, 3) := by decide +kernel
theorem dX4_peaks_55 : decode cX4_peaks 55 = .ok (.aload_n 0, 1) := by decide +kernel
theorem dX4_peaks_56 : decode cX4_peaks 56 = .ok (.getfield 32, 3) := by decide +kernel
theorem dX4_peaks_59 : decode cX4_peaks 59 = .ok (.iload 5, 2) := by decide +kernel
theorem dX4_peaks_61 : decode cX4_peaks 61 = .ok (.laload, 1) := by decide +kernel
theorem dX4_peaks_62 : decode cX4_peaks 62 = .ok (.ldc2_w 165, 3) := by decide +kernel
theorem dX4_peaks_65 : decode cX4_peaks 65 = .ok (.lmul, 1) := by decide +kernel
theorem dX4_peaks_66 : decode cX4_peaks 66 = .ok (.lload_n 2, 1) := by decide +kernel
theorem dX4_peaks_67 : decode cX4_peaks 67 = .ok (.iload_n 1, 1) := by decide +kernel
theorem dX4_peaks_68 : decode cX4_peaks 68 = .ok (.i2l, 1) := by decide +kernel
theorem dX4_peaks_69 : decode cX4_peaks 69 = .ok (.lmul, 1) := by decide +kernel
theorem dX4_peaks_70 : decode cX4_peaks 70 = .ok (.lcmp, 1) := by decide +kernel
theorem dX4_peaks_71 : decode cX4_peaks 71 = .ok (.ifCond .lt 6, 3) := by decide +kernel
theorem dX4_peaks_74 : decode cX4_peaks 74 = .ok (.iinc 4 1, 3) := by decide +kernel
theorem dX4_peaks_77 : decode cX4_peaks 77 = .ok (.iinc 5 1, 3) := by decide +kernel
theorem dX4_peaks_80 : decode cX4_peaks 80 = .ok (.goto (-44), 3) := by decide +kernel
theorem dX4_peaks_83 : decode cX4_peaks 83 = .ok (.iload 4, 2) := by decide +kernel
theorem dX4_peaks_85 : decode cX4_peaks 85 = .ok (.ireturn, 1) := by decide +kernel
theorem dX4_found_0 : decode cX4_found 0 = .ok (.iload_n 1, 1) := by decide +kernel
theorem dX4_found_1 : decode cX4_found 1 = .ok (.iconst 0, 1) := by decide +kernel
theorem dX4_found_2 : decode cX4_found 2 = .ok (.iconst 5, 1) := by decide +kernel
theorem dX4_found_3 : decode cX4_found 3 = .ok (.invokestatic 41, 3) := by decide +kernel
theorem dX4_found_6 : decode cX4_found 6 = .ok (.ifCond .ne 13, 3) := by decide +kernel
theorem dX4_found_9 : decode cX4_found 9 = .ok (.new 71, 3) := by decide +kernel
theorem dX4_found_12 : decode cX4_found 12 = .ok (.dup, 1) := by decide +kernel
theorem dX4_found_13 : decode cX4_found 13 = .ok (.ldc 167, 2) := by decide +kernel
theorem dX4_found_15 : decode cX4_found 15 = .ok (.invokespecial 75, 3) := by decide +kernel
theorem dX4_found_18 : decode cX4_found 18 = .ok (.athrow, 1) := by decide +kernel
theorem dX4_found_19 : decode cX4_found 19 = .ok (.aload_n 0, 1) := by decide +kernel
theorem dX4_found_20 : decode cX4_found 20 = .ok (.invokevirtual 124, 3) := by decide +kernel
theorem dX4_found_23 : decode cX4_found 23 = .ok (.lstore_n 2, 1) := by decide +kernel
theorem dX4_found_24 : decode cX4_found 24 = .ok (.aload_n 0, 1) := by decide +kernel
theorem dX4_found_25 : decode cX4_found 25 = .ok (.invokevirtual 169, 3) := by decide +kernel
theorem dX4_found_28 : decode cX4_found 28 = .ok (.istore 4, 2) := by decide +kernel
theorem dX4_found_30 : decode cX4_found 30 = .ok (.iconst 0, 1) := by decide +kernel
theorem dX4_found_31 : decode cX4_found 31 = .ok (.istore 5, 2) := by decide +kernel
theorem dX4_found_33 : decode cX4_found 33 = .ok (.iload 5, 2) := by decide +kernel
theorem dX4_found_35 : decode cX4_found 35 = .ok (.iload_n 1, 1) := by decide +kernel
theorem dX4_found_36 : decode cX4_found 36 = .ok (.if_icmp .ge 29, 3) := by decide +kernel
theorem dX4_found_39 : decode cX4_found 39 = .ok (.iload 4, 2) := by decide +kernel
theorem dX4_found_41 : decode cX4_found 41 = .ok (.bipush (-99), 2) := by decide +kernel
theorem dX4_found_43 : decode cX4_found 43 = .ok (.if_icmp .eq 22, 3) := by decide +kernel
theorem dX4_found_46 : decode cX4_found 46 = .ok (.aload_n 0, 1) := by decide +kernel
theorem dX4_found_47 : decode cX4_found 47 = .ok (.iload 4, 2) := by decide +kernel
theorem dX4_found_49 : decode cX4_found 49 = .ok (.lload_n 2, 1) := by decide +kernel
theorem dX4_found_50 : decode cX4_found 50 = .ok (.invokevirtual 172, 3) := by decide +kernel
theorem dX4_found_53 : decode cX4_found 53 = .ok (.aload_n 0, 1) := by decide +kernel
theorem dX4_found_54 : decode cX4_found 54 = .ok (.invokevirtual 169, 3) := by decide +kernel
theorem dX4_found_57 : decode cX4_found 57 = .ok (.istore 4, 2) := by decide +kernel
theorem dX4_found_59 : decode cX4_found 59 = .ok (.iinc 5 1, 3) := by decide +kernel
theorem dX4_found_62 : decode cX4_found 62 = .ok (.goto (-29), 3) := by decide +kernel
theorem dX4_found_65 : decode cX4_found 65 = .ok (.iload 4, 2) := by decide +kernel
theorem dX4_found_67 : decode cX4_found 67 = .ok (.ireturn, 1) := by decide +kernel
theorem dX4_calibrated_0 : decode cX4_calibrated 0 = .ok (.aload_n 0, 1) := by decide +kernel
theorem dX4_calibrated_1 : decode cX4_calibrated 1 = .ok (.iload_n 1, 1) := by decide +kernel
theorem dX4_calibrated_2 : decode cX4_calibrated 2 = .ok (.invokevirtual 67, 3) := by decide +kernel
theorem dX4_calibrated_5 : decode cX4_calibrated 5 = .ok (.ifCond .ne 13, 3) := by decide +kernel
theorem dX4_calibrated_8 : decode cX4_calibrated 8 = .ok (.new 71, 3) := by decide +kernel
theorem dX4_calibrated_11 : decode cX4_calibrated 11 = .ok (.dup, 1) := by decide +kernel
theorem dX4_calibrated_12 : decode cX4_calibrated 12 = .ok (.ldc 73, 2) := by decide +kernel
theorem dX4_calibrated_14 : decode cX4_calibrated 14 = .ok (.invokespecial 75, 3) := by decide +kernel
theorem dX4_calibrated_17 : decode cX4_calibrated 17 = .ok (.athrow, 1) := by decide +kernel
theorem dX4_calibrated_18 : decode cX4_calibrated 18 = .ok (.iload_n 2, 1) := by decide +kernel
theorem dX4_calibrated_19 : decode cX4_calibrated 19 = .ok (.ifCond .eq 15, 3) := by decide +kernel
theorem dX4_calibrated_22 : decode cX4_calibrated 22 = .ok (.aload_n 0, 1) := by decide +kernel
theorem dX4_calibrated_23 : decode cX4_calibrated 23 = .ok (.getfield 11, 3) := by decide +kernel
theorem dX4_calibrated_26 : decode cX4_calibrated 26 = .ok (.iload_n 1, 1) := by decide +kernel
theorem dX4_calibrated_27 : decode cX4_calibrated 27 = .ok (.aaload, 1) := by decide +kernel
theorem dX4_calibrated_28 : decode cX4_calibrated 28 = .ok (.invokevirtual 176, 3) := by decide +kernel
theorem dX4_calibrated_31 : decode cX4_calibrated 31 = .ok (.goto 12, 3) := by decide +kernel
theorem dX4_calibrated_34 : decode cX4_calibrated 34 = .ok (.aload_n 0, 1) := by decide +kernel
theorem dX4_calibrated_35 : decode cX4_calibrated 35 = .ok (.getfield 11, 3) := by decide +kernel
theorem dX4_calibrated_38 : decode cX4_calibrated 38 = .ok (.iload_n 1, 1) := by decide +kernel
theorem dX4_calibrated_39 : decode cX4_calibrated 39 = .ok (.aaload, 1) := by decide +kernel
theorem dX4_calibrated_40 : decode cX4_calibrated 40 = .ok (.invokevirtual 179, 3) := by decide +kernel
theorem dX4_calibrated_43 : decode cX4_calibrated 43 = .ok (.ireturn, 1) := by decide +kernel
theorem dX4_tick_0 : decode cX4_tick 0 = .ok (.aload_n 0, 1) := by decide +kernel
theorem dX4_tick_1 : decode cX4_tick 1 = .ok (.getfield 60, 3) := by decide +kernel
theorem dX4_tick_4 : decode cX4_tick 4 = .ok (.ireturn, 1) := by decide +kernel
theorem dX4_isWithin_0 : decode cX4_isWithin 0 = .ok (.iload_n 0, 1) := by decide +kernel
theorem dX4_isWithin_1 : decode cX4_isWithin 1 = .ok (.iload_n 1, 1) := by decide +kernel
theorem dX4_isWithin_2 : decode cX4_isWithin 2 = .ok (.if_icmp .lt 12, 3) := by decide +kernel
theorem dX4_isWithin_5 : decode cX4_isWithin 5 = .ok (.iload_n 0, 1) := by decide +kernel
theorem dX4_isWithin_6 : decode cX4_isWithin 6 = .ok (.iload_n 2, 1) := by decide +kernel
theorem dX4_isWithin_7 : decode cX4_isWithin 7 = .ok (.if_icmp .gt 7, 3) := by decide +kernel
theorem dX4_isWithin_10 : decode cX4_isWithin 10 = .ok (.iconst 1, 1) := by decide +kernel
theorem dX4_isWithin_11 : decode cX4_isWithin 11 = .ok (.goto 4, 3) := by decide +kernel
theorem dX4_isWithin_14 : decode cX4_isWithin 14 = .ok (.iconst 0, 1) := by decide +kernel
theorem dX4_isWithin_15 : decode cX4_isWithin 15 = .ok (.ireturn, 1) := by decide +kernel
theorem dX4_isBearing_0 : decode cX4_isBearing 0 = .ok (.iload_n 0, 1) := by decide +kernel
theorem dX4_isBearing_1 : decode cX4_isBearing 1 = .ok (.bipush (-4), 2) := by decide +kernel
theorem dX4_isBearing_3 : decode cX4_isBearing 3 = .ok (.iconst 4, 1) := by decide +kernel
theorem dX4_isBearing_4 : decode cX4_isBearing 4 = .ok (.invokestatic 41, 3) := by decide +kernel
theorem dX4_isBearing_7 : decode cX4_isBearing 7 = .ok (.ireturn, 1) := by decide +kernel
theorem dX4_isElement_0 : decode cX4_isElement 0 = .ok (.iload_n 1, 1) := by decide +kernel
theorem dX4_isElement_1 : decode cX4_isElement 1 = .ok (.ifCond .lt 24, 3) := by decide +kernel
theorem dX4_isElement_4 : decode cX4_isElement 4 = .ok (.iload_n 1, 1) := by decide +kernel
theorem dX4_isElement_5 : decode cX4_isElement 5 = .ok (.aload_n 0, 1) := by decide +kernel
theorem dX4_isElement_6 : decode cX4_isElement 6 = .ok (.getfield 52, 3) := by decide +kernel
theorem dX4_isElement_9 : decode cX4_isElement 9 = .ok (.if_icmp .ge 16, 3) := by decide +kernel
theorem dX4_isElement_12 : decode cX4_isElement 12 = .ok (.iload_n 1, 1) := by decide +kernel
theorem dX4_isElement_13 : decode cX4_isElement 13 = .ok (.aload_n 0, 1) := by decide +kernel
theorem dX4_isElement_14 : decode cX4_isElement 14 = .ok (.getfield 11, 3) := by decide +kernel
theorem dX4_isElement_17 : decode cX4_isElement 17 = .ok (.arraylength, 1) := by decide +kernel
theorem dX4_isElement_18 : decode cX4_isElement 18 = .ok (.if_icmp .ge 7, 3) := by decide +kernel
theorem dX4_isElement_21 : decode cX4_isElement 21 = .ok (.iconst 1, 1) := by decide +kernel
theorem dX4_isElement_22 : decode cX4_isElement 22 = .ok (.goto 4, 3) := by decide +kernel
theorem dX4_isElement_25 : decode cX4_isElement 25 = .ok (.iconst 0, 1) := by decide +kernel
theorem dX4_isElement_26 : decode cX4_isElement 26 = .ok (.ireturn, 1) := by decide +kernel
theorem dX4_hearOneTick_0 : decode cX4_hearOneTick 0 = .ok (.aload_n 0, 1) := by decide +kernel
theorem dX4_hearOneTick_1 : decode cX4_hearOneTick 1 = .ok (.getfield 11, 3) := by decide +kernel
theorem dX4_hearOneTick_4 : decode cX4_hearOneTick 4 = .ok (.astore_n 1, 1) := by decide +kernel
theorem dX4_hearOneTick_5 : decode cX4_hearOneTick 5 = .ok (.aload_n 1, 1) := by decide +kernel
theorem dX4_hearOneTick_6 : decode cX4_hearOneTick 6 = .ok (.arraylength, 1) := by decide +kernel
theorem dX4_hearOneTick_7 : decode cX4_hearOneTick 7 = .ok (.istore_n 2, 1) := by decide +kernel
theorem dX4_hearOneTick_8 : decode cX4_hearOneTick 8 = .ok (.iconst 0, 1) := by decide +kernel
theorem dX4_hearOneTick_9 : decode cX4_hearOneTick 9 = .ok (.istore_n 3, 1) := by decide +kernel
theorem dX4_hearOneTick_10 : decode cX4_hearOneTick 10 = .ok (.iload_n 3, 1) := by decide +kernel
theorem dX4_hearOneTick_11 : decode cX4_hearOneTick 11 = .ok (.iload_n 2, 1) := by decide +kernel
theorem dX4_hearOneTick_12 : decode cX4_hearOneTick 12 = .ok (.if_icmp .ge 62, 3) := by decide +kernel
theorem dX4_hearOneTick_15 : decode cX4_hearOneTick 15 = .ok (.aload_n 1, 1) := by decide +kernel
theorem dX4_hearOneTick_16 : decode cX4_hearOneTick 16 = .ok (.iload_n 3, 1) := by decide +kernel
theorem dX4_hearOneTick_17 : decode cX4_hearOneTick 17 = .ok (.aaload, 1) := by decide +kernel
theorem dX4_hearOneTick_18 : decode cX4_hearOneTick 18 = .ok (.astore 4, 2) := by decide +kernel
theorem dX4_hearOneTick_20 : decode cX4_hearOneTick 20 = .ok (.aload 4, 2) := by decide +kernel
theorem dX4_hearOneTick_22 : decode cX4_hearOneTick 22 = .ok (.invokevirtual 182, 3) := by decide +kernel
theorem dX4_hearOneTick_25 : decode cX4_hearOneTick 25 = .ok (.ifCond .eq 43, 3) := by decide +kernel
theorem dX4_hearOneTick_28 : decode cX4_hearOneTick 28 = .ok (.aload_n 0, 1) := by decide +kernel
theorem dX4_hearOneTick_29 : decode cX4_hearOneTick 29 = .ok (.getfield 24, 3) := by decide +kernel
theorem dX4_hearOneTick_32 : decode cX4_hearOneTick 32 = .ok (.invokevirtual 185, 3) := by decide +kernel
theorem dX4_hearOneTick_35 : decode cX4_hearOneTick 35 = .ok (.istore 5, 2) := by decide +kernel
theorem dX4_hearOneTick_37 : decode cX4_hearOneTick 37 = .ok (.aload 4, 2) := by decide +kernel
theorem dX4_hearOneTick_39 : decode cX4_hearOneTick 39 = .ok (.aload 4, 2) := by decide +kernel
theorem dX4_hearOneTick_41 : decode cX4_hearOneTick 41 = .ok (.invokevirtual 76, 3) := by decide +kernel
theorem dX4_hearOneTick_44 : decode cX4_hearOneTick 44 = .ok (.ifCond .eq 20, 3) := by decide +kernel
theorem dX4_hearOneTick_47 : decode cX4_hearOneTick 47 = .ok (.aload 4, 2) := by decide +kernel
theorem dX4_hearOneTick_49 : decode cX4_hearOneTick 49 = .ok (.aload_n 0, 1) := by decide +kernel
theorem dX4_hearOneTick_50 : decode cX4_hearOneTick 50 = .ok (.aload 4, 2) := by decide +kernel
theorem dX4_hearOneTick_52 : decode cX4_hearOneTick 52 = .ok (.invokevirtual 188, 3) := by decide +kernel
theorem dX4_hearOneTick_55 : decode cX4_hearOneTick 55 = .ok (.invokevirtual 192, 3) := by decide +kernel
theorem dX4_hearOneTick_58 : decode cX4_hearOneTick 58 = .ok (.iload 5, 2) := by decide +kernel
theorem dX4_hearOneTick_60 : decode cX4_hearOneTick 60 = .ok (.iadd, 1) := by decide +kernel
theorem dX4_hearOneTick_61 : decode cX4_hearOneTick 61 = .ok (.goto 4, 3) := by decide +kernel
theorem dX4_hearOneTick_64 : decode cX4_hearOneTick 64 = .ok (.iconst 0, 1) := by decide +kernel
theorem dX4_hearOneTick_65 : decode cX4_hearOneTick 65 = .ok (.invokevirtual 195, 3) := by decide +kernel
theorem dX4_hearOneTick_68 : decode cX4_hearOneTick 68 = .ok (.iinc 3 1, 3) := by decide +kernel
theorem dX4_hearOneTick_71 : decode cX4_hearOneTick 71 = .ok (.goto (-61), 3) := by decide +kernel
theorem dX4_hearOneTick_74 : decode cX4_hearOneTick 74 = .ok (.aload_n 0, 1) := by decide +kernel
theorem dX4_hearOneTick_75 : decode cX4_hearOneTick 75 = .ok (.dup, 1) := by decide +kernel
theorem dX4_hearOneTick_76 : decode cX4_hearOneTick 76 = .ok (.getfield 60, 3) := by decide +kernel
theorem dX4_hearOneTick_79 : decode cX4_hearOneTick 79 = .ok (.iconst 1, 1) := by decide +kernel
theorem dX4_hearOneTick_80 : decode cX4_hearOneTick 80 = .ok (.iadd, 1) := by decide +kernel
theorem dX4_hearOneTick_81 : decode cX4_hearOneTick 81 = .ok (.putfield 60, 3) := by decide +kernel
theorem dX4_hearOneTick_84 : decode cX4_hearOneTick 84 = .ok (.return_, 1) := by decide +kernel
theorem dX4_wavesAt_0 : decode cX4_wavesAt 0 = .ok (.iconst 0, 1) := by decide +kernel
theorem dX4_wavesAt_1 : decode cX4_wavesAt 1 = .ok (.istore_n 2, 1) := by decide +kernel
theorem dX4_wavesAt_2 : decode cX4_wavesAt 2 = .ok (.iconst 0, 1) := by decide +kernel
theorem dX4_wavesAt_3 : decode cX4_wavesAt 3 = .ok (.istore_n 3, 1) := by decide +kernel
theorem dX4_wavesAt_4 : decode cX4_wavesAt 4 = .ok (.iload_n 3, 1) := by decide +kernel
theorem dX4_wavesAt_5 : decode cX4_wavesAt 5 = .ok (.aload_n 0, 1) := by decide +kernel
theorem dX4_wavesAt_6 : decode cX4_wavesAt 6 = .ok (.getfield 91, 3) := by decide +kernel
theorem dX4_wavesAt_9 : decode cX4_wavesAt 9 = .ok (.if_icmp .ge 53, 3) := by decide +kernel
theorem dX4_wavesAt_12 : decode cX4_wavesAt 12 = .ok (.iload_n 3, 1) := by decide +kernel
theorem dX4_wavesAt_13 : decode cX4_wavesAt 13 = .ok (.aload_n 0, 1) := by decide +kernel
theorem dX4_wavesAt_14 : decode cX4_wavesAt 14 = .ok (.getfield 17, 3) := by decide +kernel
theorem dX4_wavesAt_17 : decode cX4_wavesAt 17 = .ok (.arraylength, 1) := by decide +kernel
theorem dX4_wavesAt_18 : decode cX4_wavesAt 18 = .ok (.if_icmp .ge 44, 3) := by decide +kernel
theorem dX4_wavesAt_21 : decode cX4_wavesAt 21 = .ok (.aload_n 0, 1) := by decide +kernel
theorem dX4_wavesAt_22 : decode cX4_wavesAt 22 = .ok (.getfield 17, 3) := by decide +kernel
theorem dX4_wavesAt_25 : decode cX4_wavesAt 25 = .ok (.iload_n 3, 1) := by decide +kernel
theorem dX4_wavesAt_26 : decode cX4_wavesAt 26 = .ok (.aaload, 1) := by decide +kernel
theorem dX4_wavesAt_27 : decode cX4_wavesAt 27 = .ok (.astore 4, 2) := by decide +kernel
theorem dX4_wavesAt_29 : decode cX4_wavesAt 29 = .ok (.iload_n 2, 1) := by decide +kernel
theorem dX4_wavesAt_30 : decode cX4_wavesAt 30 = .ok (.aload 4, 2) := by decide +kernel
theorem dX4_wavesAt_32 : decode cX4_wavesAt 32 = .ok (.aload_n 0, 1) := by decide +kernel
theorem dX4_wavesAt_33 : decode cX4_wavesAt 33 = .ok (.getfield 60, 3) := by decide +kernel
theorem dX4_wavesAt_36 : decode cX4_wavesAt 36 = .ok (.aload_n 1, 1) := by decide +kernel
theorem dX4_wavesAt_37 : decode cX4_wavesAt 37 = .ok (.aload 4, 2) := by decide +kernel
theorem dX4_wavesAt_39 : decode cX4_wavesAt 39 = .ok (.invokevirtual 198, 3) := by decide +kernel
theorem dX4_wavesAt_42 : decode cX4_wavesAt 42 = .ok (.invokevirtual 201, 3) := by decide +kernel
theorem dX4_wavesAt_45 : decode cX4_wavesAt 45 = .ok (.isub, 1) := by decide +kernel
theorem dX4_wavesAt_46 : decode cX4_wavesAt 46 = .ok (.aload_n 1, 1) := by decide +kernel
theorem dX4_wavesAt_47 : decode cX4_wavesAt 47 = .ok (.invokevirtual 204, 3) := by decide +kernel
theorem dX4_wavesAt_50 : decode cX4_wavesAt 50 = .ok (.isub, 1) := by decide +kernel
theorem dX4_wavesAt_51 : decode cX4_wavesAt 51 = .ok (.invokevirtual 207, 3) := by decide +kernel
theorem dX4_wavesAt_54 : decode cX4_wavesAt 54 = .ok (.iadd, 1) := by decide +kernel
theorem dX4_wavesAt_55 : decode cX4_wavesAt 55 = .ok (.istore_n 2, 1) := by decide +kernel
theorem dX4_wavesAt_56 : decode cX4_wavesAt 56 = .ok (.iinc 3 1, 3) := by decide +kernel
theorem dX4_wavesAt_59 : decode cX4_wavesAt 59 = .ok (.goto (-55), 3) := by decide +kernel
theorem dX4_wavesAt_62 : decode cX4_wavesAt 62 = .ok (.iload_n 2, 1) := by decide +kernel
theorem dX4_wavesAt_63 : decode cX4_wavesAt 63 = .ok (.ireturn, 1) := by decide +kernel
theorem dX4_layAll_0 : decode cX4_layAll 0 = .ok (.iconst 0, 1) := by decide +kernel
theorem dX4_layAll_1 : decode cX4_layAll 1 = .ok (.istore_n 1, 1) := by decide +kernel
theorem dX4_layAll_2 : decode cX4_layAll 2 = .ok (.aload_n 0, 1) := by decide +kernel
theorem dX4_layAll_3 : decode cX4_layAll 3 = .ok (.getfield 11, 3) := by decide +kernel
theorem dX4_layAll_6 : decode cX4_layAll 6 = .ok (.astore_n 2, 1) := by decide +kernel
theorem dX4_layAll_7 : decode cX4_layAll 7 = .ok (.aload_n 2, 1) := by decide +kernel
theorem dX4_layAll_8 : decode cX4_layAll 8 = .ok (.arraylength, 1) := by decide +kernel
theorem dX4_layAll_9 : decode cX4_layAll 9 = .ok (.istore_n 3, 1) := by decide +kernel
theorem dX4_layAll_10 : decode cX4_layAll 10 = .ok (.iconst 0, 1) := by decide +kernel
theorem dX4_layAll_11 : decode cX4_layAll 11 = .ok (.istore 4, 2) := by decide +kernel
theorem dX4_layAll_13 : decode cX4_layAll 13 = .ok (.iload 4, 2) := by decide +kernel
theorem dX4_layAll_15 : decode cX4_layAll 15 = .ok (.iload_n 3, 1) := by decide +kernel
theorem dX4_layAll_16 : decode cX4_layAll 16 = .ok (.if_icmp .ge 31, 3) := by decide +kernel
theorem dX4_layAll_19 : decode cX4_layAll 19 = .ok (.aload_n 2, 1) := by decide +kernel
theorem dX4_layAll_20 : decode cX4_layAll 20 = .ok (.iload 4, 2) := by decide +kernel
theorem dX4_layAll_22 : decode cX4_layAll 22 = .ok (.aaload, 1) := by decide +kernel
theorem dX4_layAll_23 : decode cX4_layAll 23 = .ok (.astore 5, 2) := by decide +kernel
theorem dX4_layAll_25 : decode cX4_layAll 25 = .ok (.iload_n 1, 1) := by decide +kernel
theorem dX4_layAll_26 : decode cX4_layAll 26 = .ok (.aload 5, 2) := by decide +kernel
theorem dX4_layAll_28 : decode cX4_layAll 28 = .ok (.invokevirtual 76, 3) := by decide +kernel
theorem dX4_layAll_31 : decode cX4_layAll 31 = .ok (.ifCond .eq 7, 3) := by decide +kernel
theorem dX4_layAll_34 : decode cX4_layAll 34 = .ok (.iconst 1, 1) := by decide +kernel
theorem dX4_layAll_35 : decode cX4_layAll 35 = .ok (.goto 4, 3) := by decide +kernel
theorem dX4_layAll_38 : decode cX4_layAll 38 = .ok (.iconst 0, 1) := by decide +kernel
theorem dX4_layAll_39 : decode cX4_layAll 39 = .ok (.iadd, 1) := by decide +kernel
theorem dX4_layAll_40 : decode cX4_layAll 40 = .ok (.istore_n 1, 1) := by decide +kernel
theorem dX4_layAll_41 : decode cX4_layAll 41 = .ok (.iinc 4 1, 3) := by decide +kernel
theorem dX4_layAll_44 : decode cX4_layAll 44 = .ok (.goto (-31), 3) := by decide +kernel
theorem dX4_layAll_47 : decode cX4_layAll 47 = .ok (.iconst 0, 1) := by decide +kernel
theorem dX4_layAll_48 : decode cX4_layAll 48 = .ok (.istore_n 2, 1) := by decide +kernel
theorem dX4_layAll_49 : decode cX4_layAll 49 = .ok (.lconst 0, 1) := by decide +kernel
theorem dX4_layAll_50 : decode cX4_layAll 50 = .ok (.lstore_n 3, 1) := by decide +kernel
theorem dX4_layAll_51 : decode cX4_layAll 51 = .ok (.aload_n 0, 1) := by decide +kernel
theorem dX4_layAll_52 : decode cX4_layAll 52 = .ok (.getfield 11, 3) := by decide +kernel
theorem dX4_layAll_55 : decode cX4_layAll 55 = .ok (.astore 5, 2) := by decide +kernel
theorem dX4_layAll_57 : decode cX4_layAll 57 = .ok (.aload 5, 2) := by decide +kernel
theorem dX4_layAll_59 : decode cX4_layAll 59 = .ok (.arraylength, 1) := by decide +kernel
theorem dX4_layAll_60 : decode cX4_layAll 60 = .ok (.istore 6, 2) := by decide +kernel
theorem dX4_layAll_62 : decode cX4_layAll 62 = .ok (.iconst 0, 1) := by decide +kernel
theorem dX4_layAll_63 : decode cX4_layAll 63 = .ok (.istore 7, 2) := by decide +kernel
theorem dX4_layAll_65 : decode cX4_layAll 65 = .ok (.iload 7, 2) := by decide +kernel
theorem dX4_layAll_67 : decode cX4_layAll 67 = .ok (.iload 6, 2) := by decide +kernel
theorem dX4_layAll_69 : decode cX4_layAll 69 = .ok (.if_icmp .ge 51, 3) := by decide +kernel
theorem dX4_layAll_72 : decode cX4_layAll 72 = .ok (.aload 5, 2) := by decide +kernel
theorem dX4_layAll_74 : decode cX4_layAll 74 = .ok (.iload 7, 2) := by decide +kernel
theorem dX4_layAll_76 : decode cX4_layAll 76 = .ok (.aaload, 1) := by decide +kernel
theorem dX4_layAll_77 : decode cX4_layAll 77 = .ok (.astore 8, 2) := by decide +kernel
theorem dX4_layAll_79 : decode cX4_layAll 79 = .ok (.iconst 0, 1) := by decide +kernel
theorem dX4_layAll_80 : decode cX4_layAll 80 = .ok (.istore 9, 2) := by decide +kernel
theorem dX4_layAll_82 : decode cX4_layAll 82 = .ok (.aload 8, 2) := by decide +kernel
theorem dX4_layAll_84 : decode cX4_layAll 84 = .ok (.invokevirtual 76, 3) := by decide +kernel
theorem dX4_layAll_87 : decode cX4_layAll 87 = .ok (.ifCond .eq 14, 3) := by decide +kernel
theorem dX4_layAll_90 : decode cX4_layAll 90 = .ok (.aload_n 0, 1) := by decide +kernel
theorem dX4_layAll_91 : decode cX4_layAll 91 = .ok (.iload_n 2, 1) := by decide +kernel
theorem dX4_layAll_92 : decode cX4_layAll 92 = .ok (.iload_n 1, 1) := by decide +kernel
theorem dX4_layAll_93 : decode cX4_layAll 93 = .ok (.invokevirtual 210, 3) := by decide +kernel
theorem dX4_layAll_96 : decode cX4_layAll 96 = .ok (.istore 9, 2) := by decide +kernel
theorem dX4_layAll_98 : decode cX4_layAll 98 = .ok (.iinc 2 1, 3) := by decide +kernel
theorem dX4_layAll_101 : decode cX4_layAll 101 = .ok (.aload 8, 2) := by decide +kernel
theorem dX4_layAll_103 : decode cX4_layAll 103 = .ok (.iload 9, 2) := by decide +kernel
theorem dX4_layAll_105 : decode cX4_layAll 105 = .ok (.invokevirtual 214, 3) := by decide +kernel
theorem dX4_layAll_108 : decode cX4_layAll 108 = .ok (.lload_n 3, 1) := by decide +kernel
theorem dX4_layAll_109 : decode cX4_layAll 109 = .ok (.iload 9, 2) := by decide +kernel
theorem dX4_layAll_111 : decode cX4_layAll 111 = .ok (.i2l, 1) := by decide +kernel
theorem dX4_layAll_112 : decode cX4_layAll 112 = .ok (.ladd, 1) := by decide +kernel
theorem dX4_layAll_113 : decode cX4_layAll 113 = .ok (.lstore_n 3, 1) := by decide +kernel
theorem dX4_layAll_114 : decode cX4_layAll 114 = .ok (.iinc 7 1, 3) := by decide +kernel
theorem dX4_layAll_117 : decode cX4_layAll 117 = .ok (.goto (-52), 3) := by decide +kernel
theorem dX4_layAll_120 : decode cX4_layAll 120 = .ok (.lload_n 3, 1) := by decide +kernel
theorem dX4_layAll_121 : decode cX4_layAll 121 = .ok (.lreturn, 1) := by decide +kernel
theorem dX4_weightOf_0 : decode cX4_weightOf 0 = .ok (.iload_n 2, 1) := by decide +kernel
theorem dX4_weightOf_1 : decode cX4_weightOf 1 = .ok (.iconst 1, 1) := by decide +kernel
theorem dX4_weightOf_2 : decode cX4_weightOf 2 = .ok (.isub, 1) := by decide +kernel
theorem dX4_weightOf_3 : decode cX4_weightOf 3 = .ok (.iload_n 1, 1) := by decide +kernel
theorem dX4_weightOf_4 : decode cX4_weightOf 4 = .ok (.isub, 1) := by decide +kernel
theorem dX4_weightOf_5 : decode cX4_weightOf 5 = .ok (.istore_n 3, 1) := by decide +kernel
theorem dX4_weightOf_6 : decode cX4_weightOf 6 = .ok (.aload_n 0, 1) := by decide +kernel
theorem dX4_weightOf_7 : decode cX4_weightOf 7 = .ok (.getfield 37, 3) := by decide +kernel
theorem dX4_weightOf_10 : decode cX4_weightOf 10 = .ok (.iconst 1, 1) := by decide +kernel
theorem dX4_weightOf_11 : decode cX4_weightOf 11 = .ok (.if_icmp .ne 11, 3) := by decide +kernel
theorem dX4_weightOf_14 : decode cX4_weightOf 14 = .ok (.iconst 1, 1) := by decide +kernel
theorem dX4_weightOf_15 : decode cX4_weightOf 15 = .ok (.iload_n 1, 1) := by decide +kernel
theorem dX4_weightOf_16 : decode cX4_weightOf 16 = .ok (.iload_n 3, 1) := by decide +kernel
theorem dX4_weightOf_17 : decode cX4_weightOf 17 = .ok (.invokestatic 217, 3) := by decide +kernel
theorem dX4_weightOf_20 : decode cX4_weightOf 20 = .ok (.iadd, 1) := by decide +kernel
theorem dX4_weightOf_21 : decode cX4_weightOf 21 = .ok (.ireturn, 1) := by decide +kernel
theorem dX4_weightOf_22 : decode cX4_weightOf 22 = .ok (.aload_n 0, 1) := by decide +kernel
theorem dX4_weightOf_23 : decode cX4_weightOf 23 = .ok (.getfield 37, 3) := by decide +kernel
theorem dX4_weightOf_26 : decode cX4_weightOf 26 = .ok (.iconst 2, 1) := by decide +kernel
theorem dX4_weightOf_27 : decode cX4_weightOf 27 = .ok (.if_icmp .ne 17, 3) := by decide +kernel
theorem dX4_weightOf_30 : decode cX4_weightOf 30 = .ok (.iload_n 1, 1) := by decide +kernel
theorem dX4_weightOf_31 : decode cX4_weightOf 31 = .ok (.ifCond .eq 7, 3) := by decide +kernel
theorem dX4_weightOf_34 : decode cX4_weightOf 34 = .ok (.iload_n 3, 1) := by decide +kernel
theorem dX4_weightOf_35 : decode cX4_weightOf 35 = .ok (.ifCond .ne 7, 3) := by decide +kernel
theorem dX4_weightOf_38 : decode cX4_weightOf 38 = .ok (.iconst 3, 1) := by decide +kernel
theorem dX4_weightOf_39 : decode cX4_weightOf 39 = .ok (.goto 4, 3) := by decide +kernel
theorem dX4_weightOf_42 : decode cX4_weightOf 42 = .ok (.iconst 1, 1) := by decide +kernel
theorem dX4_weightOf_43 : decode cX4_weightOf 43 = .ok (.ireturn, 1) := by decide +kernel
theorem dX4_weightOf_44 : decode cX4_weightOf 44 = .ok (.iconst 1, 1) := by decide +kernel
theorem dX4_weightOf_45 : decode cX4_weightOf 45 = .ok (.ireturn, 1) := by decide +kernel
theorem dX4_steer_0 : decode cX4_steer 0 = .ok (.aload_n 0, 1) := by decide +kernel
theorem dX4_steer_1 : decode cX4_steer 1 = .ok (.getfield 28, 3) := by decide +kernel
theorem dX4_steer_4 : decode cX4_steer 4 = .ok (.lconst 0, 1) := by decide +kernel
theorem dX4_steer_5 : decode cX4_steer 5 = .ok (.invokestatic 222, 3) := by decide +kernel
theorem dX4_steer_8 : decode cX4_steer 8 = .ok (.aload_n 0, 1) := by decide +kernel
theorem dX4_steer_9 : decode cX4_steer 9 = .ok (.getfield 11, 3) := by decide +kernel
theorem dX4_steer_12 : decode cX4_steer 12 = .ok (.astore_n 2, 1) := by decide +kernel
theorem dX4_steer_13 : decode cX4_steer 13 = .ok (.aload_n 2, 1) := by decide +kernel
theorem dX4_steer_14 : decode cX4_steer 14 = .ok (.arraylength, 1) := by decide +kernel
theorem dX4_steer_15 : decode cX4_steer 15 = .ok (.istore_n 3, 1) := by decide +kernel
theorem dX4_steer_16 : decode cX4_steer 16 = .ok (.iconst 0, 1) := by decide +kernel
theorem dX4_steer_17 : decode cX4_steer 17 = .ok (.istore 4, 2) := by decide +kernel
theorem dX4_steer_19 : decode cX4_steer 19 = .ok (.iload 4, 2) := by decide +kernel
theorem dX4_steer_21 : decode cX4_steer 21 = .ok (.iload_n 3, 1) := by decide +kernel
theorem dX4_steer_22 : decode cX4_steer 22 = .ok (.if_icmp .ge 25, 3) := by decide +kernel
theorem dX4_steer_25 : decode cX4_steer 25 = .ok (.aload_n 2, 1) := by decide +kernel
theorem dX4_steer_26 : decode cX4_steer 26 = .ok (.iload 4, 2) := by decide +kernel
theorem dX4_steer_28 : decode cX4_steer 28 = .ok (.aaload, 1) := by decide +kernel
theorem dX4_steer_29 : decode cX4_steer 29 = .ok (.astore 5, 2) := by decide +kernel
theorem dX4_steer_31 : decode cX4_steer 31 = .ok (.aload 5, 2) := by decide +kernel
theorem dX4_steer_33 : decode cX4_steer 33 = .ok (.aload_n 0, 1) := by decide +kernel
theorem dX4_steer_34 : decode cX4_steer 34 = .ok (.getfield 28, 3) := by decide +kernel
theorem dX4_steer_37 : decode cX4_steer 37 = .ok (.iload_n 1, 1) := by decide +kernel
theorem dX4_steer_38 : decode cX4_steer 38 = .ok (.invokevirtual 228, 3) := by decide +kernel
theorem dX4_steer_41 : decode cX4_steer 41 = .ok (.iinc 4 1, 3) := by decide +kernel
theorem dX4_steer_44 : decode cX4_steer 44 = .ok (.goto (-25), 3) := by decide +kernel
theorem dX4_steer_47 : decode cX4_steer 47 = .ok (.return_, 1) := by decide +kernel
theorem dX4_powerBySums_0 : decode cX4_powerBySums 0 = .ok (.aload_n 0, 1) := by decide +kernel
theorem dX4_powerBySums_1 : decode cX4_powerBySums 1 = .ok (.iload_n 1, 1) := by decide +kernel
theorem dX4_powerBySums_2 : decode cX4_powerBySums 2 = .ok (.invokevirtual 146, 3) := by decide +kernel
theorem dX4_powerBySums_5 : decode cX4_powerBySums 5 = .ok (.aload_n 0, 1) := by decide +kernel
theorem dX4_powerBySums_6 : decode cX4_powerBySums 6 = .ok (.invokevirtual 232, 3) := by decide +kernel
theorem dX4_powerBySums_9 : decode cX4_powerBySums 9 = .ok (.lreturn, 1) := by decide +kernel
theorem dX4_squaresOfSums_0 : decode cX4_squaresOfSums 0 = .ok (.lconst 0, 1) := by decide +kernel
theorem dX4_squaresOfSums_1 : decode cX4_squaresOfSums 1 = .ok (.lstore_n 1, 1) := by decide +kernel
theorem dX4_squaresOfSums_2 : decode cX4_squaresOfSums 2 = .ok (.aload_n 0, 1) := by decide +kernel
theorem dX4_squaresOfSums_3 : decode cX4_squaresOfSums 3 = .ok (.getfield 28, 3) := by decide +kernel
theorem dX4_squaresOfSums_6 : decode cX4_squaresOfSums 6 = .ok (.astore_n 3, 1) := by decide +kernel
theorem dX4_squaresOfSums_7 : decode cX4_squaresOfSums 7 = .ok (.aload_n 3, 1) := by decide +kernel
theorem dX4_squaresOfSums_8 : decode cX4_squaresOfSums 8 = .ok (.arraylength, 1) := by decide +kernel
theorem dX4_squaresOfSums_9 : decode cX4_squaresOfSums 9 = .ok (.istore 4, 2) := by decide +kernel
theorem dX4_squaresOfSums_11 : decode cX4_squaresOfSums 11 = .ok (.iconst 0, 1) := by decide +kernel
theorem dX4_squaresOfSums_12 : decode cX4_squaresOfSums 12 = .ok (.istore 5, 2) := by decide +kernel
theorem dX4_squaresOfSums_14 : decode cX4_squaresOfSums 14 = .ok (.iload 5, 2) := by decide +kernel
theorem dX4_squaresOfSums_16 : decode cX4_squaresOfSums 16 = .ok (.iload 4, 2) := by decide +kernel
theorem dX4_squaresOfSums_18 : decode cX4_squaresOfSums 18 = .ok (.if_icmp .ge 23, 3) := by decide +kernel
theorem dX4_squaresOfSums_21 : decode cX4_squaresOfSums 21 = .ok (.aload_n 3, 1) := by decide +kernel
theorem dX4_squaresOfSums_22 : decode cX4_squaresOfSums 22 = .ok (.iload 5, 2) := by decide +kernel
theorem dX4_squaresOfSums_24 : decode cX4_squaresOfSums 24 = .ok (.laload, 1) := by decide +kernel
theorem dX4_squaresOfSums_25 : decode cX4_squaresOfSums 25 = .ok (.lstore 6, 2) := by decide +kernel
theorem dX4_squaresOfSums_27 : decode cX4_squaresOfSums 27 = .ok (.lload_n 1, 1) := by decide +kernel
theorem dX4_squaresOfSums_28 : decode cX4_squaresOfSums 28 = .ok (.lload 6, 2) := by decide +kernel
theorem dX4_squaresOfSums_30 : decode cX4_squaresOfSums 30 = .ok (.lload 6, 2) := by decide +kernel
theorem dX4_squaresOfSums_32 : decode cX4_squaresOfSums 32 = .ok (.lmul, 1) := by decide +kernel
theorem dX4_squaresOfSums_33 : decode cX4_squaresOfSums 33 = .ok (.ladd, 1) := by decide +kernel
theorem dX4_squaresOfSums_34 : decode cX4_squaresOfSums 34 = .ok (.lstore_n 1, 1) := by decide +kernel
theorem dX4_squaresOfSums_35 : decode cX4_squaresOfSums 35 = .ok (.iinc 5 1, 3) := by decide +kernel
theorem dX4_squaresOfSums_38 : decode cX4_squaresOfSums 38 = .ok (.goto (-24), 3) := by decide +kernel
theorem dX4_squaresOfSums_41 : decode cX4_squaresOfSums 41 = .ok (.lload_n 1, 1) := by decide +kernel
theorem dX4_squaresOfSums_42 : decode cX4_squaresOfSums 42 = .ok (.lreturn, 1) := by decide +kernel
theorem dX4_powerByPairs_0 : decode cX4_powerByPairs 0 = .ok (.lconst 0, 1) := by decide +kernel
theorem dX4_powerByPairs_1 : decode cX4_powerByPairs 1 = .ok (.lstore_n 2, 1) := by decide +kernel
theorem dX4_powerByPairs_2 : decode cX4_powerByPairs 2 = .ok (.aload_n 0, 1) := by decide +kernel
theorem dX4_powerByPairs_3 : decode cX4_powerByPairs 3 = .ok (.getfield 11, 3) := by decide +kernel
theorem dX4_powerByPairs_6 : decode cX4_powerByPairs 6 = .ok (.astore 4, 2) := by decide +kernel
theorem dX4_powerByPairs_8 : decode cX4_powerByPairs 8 = .ok (.aload 4, 2) := by decide +kernel
theorem dX4_powerByPairs_10 : decode cX4_powerByPairs 10 = .ok (.arraylength, 1) := by decide +kernel
theorem dX4_powerByPairs_11 : decode cX4_powerByPairs 11 = .ok (.istore 5, 2) := by decide +kernel
theorem dX4_powerByPairs_13 : decode cX4_powerByPairs 13 = .ok (.iconst 0, 1) := by decide +kernel
theorem dX4_powerByPairs_14 : decode cX4_powerByPairs 14 = .ok (.istore 6, 2) := by decide +kernel
theorem dX4_powerByPairs_16 : decode cX4_powerByPairs 16 = .ok (.iload 6, 2) := by decide +kernel
theorem dX4_powerByPairs_18 : decode cX4_powerByPairs 18 = .ok (.iload 5, 2) := by decide +kernel
theorem dX4_powerByPairs_20 : decode cX4_powerByPairs 20 = .ok (.if_icmp .ge 61, 3) := by decide +kernel
theorem dX4_powerByPairs_23 : decode cX4_powerByPairs 23 = .ok (.aload 4, 2) := by decide +kernel
theorem dX4_powerByPairs_25 : decode cX4_powerByPairs 25 = .ok (.iload 6, 2) := by decide +kernel
theorem dX4_powerByPairs_27 : decode cX4_powerByPairs 27 = .ok (.aaload, 1) := by decide +kernel
theorem dX4_powerByPairs_28 : decode cX4_powerByPairs 28 = .ok (.astore 7, 2) := by decide +kernel
theorem dX4_powerByPairs_30 : decode cX4_powerByPairs 30 = .ok (.aload_n 0, 1) := by decide +kernel
theorem dX4_powerByPairs_31 : decode cX4_powerByPairs 31 = .ok (.getfield 11, 3) := by decide +kernel
theorem dX4_powerByPairs_34 : decode cX4_powerByPairs 34 = .ok (.astore 8, 2) := by decide +kernel
theorem dX4_powerByPairs_36 : decode cX4_powerByPairs 36 = .ok (.aload 8, 2) := by decide +kernel
theorem dX4_powerByPairs_38 : decode cX4_powerByPairs 38 = .ok (.arraylength, 1) := by decide +kernel
theorem dX4_powerByPairs_39 : decode cX4_powerByPairs 39 = .ok (.istore 9, 2) := by decide +kernel
theorem dX4_powerByPairs_41 : decode cX4_powerByPairs 41 = .ok (.iconst 0, 1) := by decide +kernel
theorem dX4_powerByPairs_42 : decode cX4_powerByPairs 42 = .ok (.istore 10, 2) := by decide +kernel
theorem dX4_powerByPairs_44 : decode cX4_powerByPairs 44 = .ok (.iload 10, 2) := by decide +kernel
theorem dX4_powerByPairs_46 : decode cX4_powerByPairs 46 = .ok (.iload 9, 2) := by decide +kernel
theorem dX4_powerByPairs_48 : decode cX4_powerByPairs 48 = .ok (.if_icmp .ge 27, 3) := by decide +kernel
theorem dX4_powerByPairs_51 : decode cX4_powerByPairs 51 = .ok (.aload 8, 2) := by decide +kernel
theorem dX4_powerByPairs_53 : decode cX4_powerByPairs 53 = .ok (.iload 10, 2) := by decide +kernel
theorem dX4_powerByPairs_55 : decode cX4_powerByPairs 55 = .ok (.aaload, 1) := by decide +kernel
theorem dX4_powerByPairs_56 : decode cX4_powerByPairs 56 = .ok (.astore 11, 2) := by decide +kernel
theorem dX4_powerByPairs_58 : decode cX4_powerByPairs 58 = .ok (.lload_n 2, 1) := by decide +kernel
theorem dX4_powerByPairs_59 : decode cX4_powerByPairs 59 = .ok (.aload 7, 2) := by decide +kernel
theorem dX4_powerByPairs_61 : decode cX4_powerByPairs 61 = .ok (.aload 11, 2) := by decide +kernel
theorem dX4_powerByPairs_63 : decode cX4_powerByPairs 63 = .ok (.iload_n 1, 1) := by decide +kernel
theorem dX4_powerByPairs_64 : decode cX4_powerByPairs 64 = .ok (.invokevirtual 235, 3) := by decide +kernel
theorem dX4_powerByPairs_67 : decode cX4_powerByPairs 67 = .ok (.ladd, 1) := by decide +kernel
theorem dX4_powerByPairs_68 : decode cX4_powerByPairs 68 = .ok (.lstore_n 2, 1) := by decide +kernel
theorem dX4_powerByPairs_69 : decode cX4_powerByPairs 69 = .ok (.iinc 10 1, 3) := by decide +kernel
theorem dX4_powerByPairs_72 : decode cX4_powerByPairs 72 = .ok (.goto (-28), 3) := by decide +kernel
theorem dX4_powerByPairs_75 : decode cX4_powerByPairs 75 = .ok (.iinc 6 1, 3) := by decide +kernel
theorem dX4_powerByPairs_78 : decode cX4_powerByPairs 78 = .ok (.goto (-62), 3) := by decide +kernel
theorem dX4_powerByPairs_81 : decode cX4_powerByPairs 81 = .ok (.lload_n 2, 1) := by decide +kernel
theorem dX4_powerByPairs_82 : decode cX4_powerByPairs 82 = .ok (.lreturn, 1) := by decide +kernel
theorem dX4_fillPowers_0 : decode cX4_fillPowers 0 = .ok (.lconst 0, 1) := by decide +kernel
theorem dX4_fillPowers_1 : decode cX4_fillPowers 1 = .ok (.lstore_n 1, 1) := by decide +kernel
theorem dX4_fillPowers_2 : decode cX4_fillPowers 2 = .ok (.iconst 0, 1) := by decide +kernel
theorem dX4_fillPowers_3 : decode cX4_fillPowers 3 = .ok (.istore_n 3, 1) := by decide +kernel
theorem dX4_fillPowers_4 : decode cX4_fillPowers 4 = .ok (.iload_n 3, 1) := by decide +kernel
theorem dX4_fillPowers_5 : decode cX4_fillPowers 5 = .ok (.aload_n 0, 1) := by decide +kernel
theorem dX4_fillPowers_6 : decode cX4_fillPowers 6 = .ok (.getfield 32, 3) := by decide +kernel
theorem dX4_fillPowers_9 : decode cX4_fillPowers 9 = .ok (.arraylength, 1) := by decide +kernel
theorem dX4_fillPowers_10 : decode cX4_fillPowers 10 = .ok (.if_icmp .ge 37, 3) := by decide +kernel
theorem dX4_fillPowers_13 : decode cX4_fillPowers 13 = .ok (.aload_n 0, 1) := by decide +kernel
theorem dX4_fillPowers_14 : decode cX4_fillPowers 14 = .ok (.iload_n 3, 1) := by decide +kernel
theorem dX4_fillPowers_15 : decode cX4_fillPowers 15 = .ok (.iconst 4, 1) := by decide +kernel
theorem dX4_fillPowers_16 : decode cX4_fillPowers 16 = .ok (.isub, 1) := by decide +kernel
theorem dX4_fillPowers_17 : decode cX4_fillPowers 17 = .ok (.invokevirtual 146, 3) := by decide +kernel
theorem dX4_fillPowers_20 : decode cX4_fillPowers 20 = .ok (.aload_n 0, 1) := by decide +kernel
theorem dX4_fillPowers_21 : decode cX4_fillPowers 21 = .ok (.getfield 32, 3) := by decide +kernel
theorem dX4_fillPowers_24 : decode cX4_fillPowers 24 = .ok (.iload_n 3, 1) := by decide +kernel
theorem dX4_fillPowers_25 : decode cX4_fillPowers 25 = .ok (.aload_n 0, 1) := by decide +kernel
theorem dX4_fillPowers_26 : decode cX4_fillPowers 26 = .ok (.invokevirtual 232, 3) := by decide +kernel
theorem dX4_fillPowers_29 : decode cX4_fillPowers 29 = .ok (.lastore, 1) := by decide +kernel
theorem dX4_fillPowers_30 : decode cX4_fillPowers 30 = .ok (.lload_n 1, 1) := by decide +kernel
theorem dX4_fillPowers_31 : decode cX4_fillPowers 31 = .ok (.aload_n 0, 1) := by decide +kernel
theorem dX4_fillPowers_32 : decode cX4_fillPowers 32 = .ok (.getfield 32, 3) := by decide +kernel
theorem dX4_fillPowers_35 : decode cX4_fillPowers 35 = .ok (.iload_n 3, 1) := by decide +kernel
theorem dX4_fillPowers_36 : decode cX4_fillPowers 36 = .ok (.laload, 1) := by decide +kernel
theorem dX4_fillPowers_37 : decode cX4_fillPowers 37 = .ok (.invokestatic 239, 3) := by decide +kernel
theorem dX4_fillPowers_40 : decode cX4_fillPowers 40 = .ok (.lstore_n 1, 1) := by decide +kernel
theorem dX4_fillPowers_41 : decode cX4_fillPowers 41 = .ok (.iinc 3 1, 3) := by decide +kernel
theorem dX4_fillPowers_44 : decode cX4_fillPowers 44 = .ok (.goto (-40), 3) := by decide +kernel
theorem dX4_fillPowers_47 : decode cX4_fillPowers 47 = .ok (.lload_n 1, 1) := by decide +kernel
theorem dX4_fillPowers_48 : decode cX4_fillPowers 48 = .ok (.lreturn, 1) := by decide +kernel
theorem dX4_isPeak_0 : decode cX4_isPeak 0 = .ok (.aload_n 0, 1) := by decide +kernel
theorem dX4_isPeak_1 : decode cX4_isPeak 1 = .ok (.iload_n 1, 1) := by decide +kernel
theorem dX4_isPeak_2 : decode cX4_isPeak 2 = .ok (.invokevirtual 243, 3) := by decide +kernel
theorem dX4_isPeak_5 : decode cX4_isPeak 5 = .ok (.lstore_n 2, 1) := by decide +kernel
theorem dX4_isPeak_6 : decode cX4_isPeak 6 = .ok (.lload_n 2, 1) := by decide +kernel
theorem dX4_isPeak_7 : decode cX4_isPeak 7 = .ok (.lconst 0, 1) := by decide +kernel
theorem dX4_isPeak_8 : decode cX4_isPeak 8 = .ok (.lcmp, 1) := by decide +kernel
theorem dX4_isPeak_9 : decode cX4_isPeak 9 = .ok (.ifCond .le 31, 3) := by decide +kernel
theorem dX4_isPeak_12 : decode cX4_isPeak 12 = .ok (.lload_n 2, 1) := by decide +kernel
theorem dX4_isPeak_13 : decode cX4_isPeak 13 = .ok (.aload_n 0, 1) := by decide +kernel
theorem dX4_isPeak_14 : decode cX4_isPeak 14 = .ok (.iload_n 1, 1) := by decide +kernel
theorem dX4_isPeak_15 : decode cX4_isPeak 15 = .ok (.iconst 1, 1) := by decide +kernel
theorem dX4_isPeak_16 : decode cX4_isPeak 16 = .ok (.isub, 1) := by decide +kernel
theorem dX4_isPeak_17 : decode cX4_isPeak 17 = .ok (.invokevirtual 243, 3) := by decide +kernel
theorem dX4_isPeak_20 : decode cX4_isPeak 20 = .ok (.lcmp, 1) := by decide +kernel
theorem dX4_isPeak_21 : decode cX4_isPeak 21 = .ok (.ifCond .le 19, 3) := by decide +kernel
theorem dX4_isPeak_24 : decode cX4_isPeak 24 = .ok (.lload_n 2, 1) := by decide +kernel
theorem dX4_isPeak_25 : decode cX4_isPeak 25 = .ok (.aload_n 0, 1) := by decide +kernel
theorem dX4_isPeak_26 : decode cX4_isPeak 26 = .ok (.iload_n 1, 1) := by decide +kernel
theorem dX4_isPeak_27 : decode cX4_isPeak 27 = .ok (.iconst 1, 1) := by decide +kernel
theorem dX4_isPeak_28 : decode cX4_isPeak 28 = .ok (.iadd, 1) := by decide +kernel
theorem dX4_isPeak_29 : decode cX4_isPeak 29 = .ok (.invokevirtual 243, 3) := by decide +kernel
theorem dX4_isPeak_32 : decode cX4_isPeak 32 = .ok (.lcmp, 1) := by decide +kernel
theorem dX4_isPeak_33 : decode cX4_isPeak 33 = .ok (.ifCond .le 7, 3) := by decide +kernel
theorem dX4_isPeak_36 : decode cX4_isPeak 36 = .ok (.iconst 1, 1) := by decide +kernel
theorem dX4_isPeak_37 : decode cX4_isPeak 37 = .ok (.goto 4, 3) := by decide +kernel
theorem dX4_isPeak_40 : decode cX4_isPeak 40 = .ok (.iconst 0, 1) := by decide +kernel
theorem dX4_isPeak_41 : decode cX4_isPeak 41 = .ok (.ireturn, 1) := by decide +kernel
theorem dX4_powerAt_0 : decode cX4_powerAt 0 = .ok (.iload_n 1, 1) := by decide +kernel
theorem dX4_powerAt_1 : decode cX4_powerAt 1 = .ok (.ifCond .lt 21, 3) := by decide +kernel
theorem dX4_powerAt_4 : decode cX4_powerAt 4 = .ok (.iload_n 1, 1) := by decide +kernel
theorem dX4_powerAt_5 : decode cX4_powerAt 5 = .ok (.aload_n 0, 1) := by decide +kernel
theorem dX4_powerAt_6 : decode cX4_powerAt 6 = .ok (.getfield 32, 3) := by decide +kernel
theorem dX4_powerAt_9 : decode cX4_powerAt 9 = .ok (.arraylength, 1) := by decide +kernel
theorem dX4_powerAt_10 : decode cX4_powerAt 10 = .ok (.if_icmp .ge 12, 3) := by decide +kernel
theorem dX4_powerAt_13 : decode cX4_powerAt 13 = .ok (.aload_n 0, 1) := by decide +kernel
theorem dX4_powerAt_14 : decode cX4_powerAt 14 = .ok (.getfield 32, 3) := by decide +kernel
theorem dX4_powerAt_17 : decode cX4_powerAt 17 = .ok (.iload_n 1, 1) := by decide +kernel
theorem dX4_powerAt_18 : decode cX4_powerAt 18 = .ok (.laload, 1) := by decide +kernel
theorem dX4_powerAt_19 : decode cX4_powerAt 19 = .ok (.goto 4, 3) := by decide +kernel
theorem dX4_powerAt_22 : decode cX4_powerAt 22 = .ok (.lconst 0, 1) := by decide +kernel
theorem dX4_powerAt_23 : decode cX4_powerAt 23 = .ok (.lreturn, 1) := by decide +kernel
theorem dX4_strongest_0 : decode cX4_strongest 0 = .ok (.aload_n 0, 1) := by decide +kernel
theorem dX4_strongest_1 : decode cX4_strongest 1 = .ok (.invokevirtual 159, 3) := by decide +kernel
theorem dX4_strongest_4 : decode cX4_strongest 4 = .ok (.lstore_n 1, 1) := by decide +kernel
theorem dX4_strongest_5 : decode cX4_strongest 5 = .ok (.lload_n 1, 1) := by decide +kernel
theorem dX4_strongest_6 : decode cX4_strongest 6 = .ok (.lconst 0, 1) := by decide +kernel
theorem dX4_strongest_7 : decode cX4_strongest 7 = .ok (.lcmp, 1) := by decide +kernel
theorem dX4_strongest_8 : decode cX4_strongest 8 = .ok (.ifCond .gt 6, 3) := by decide +kernel
theorem dX4_strongest_11 : decode cX4_strongest 11 = .ok (.bipush (-99), 2) := by decide +kernel
theorem dX4_strongest_13 : decode cX4_strongest 13 = .ok (.ireturn, 1) := by decide +kernel
theorem dX4_strongest_14 : decode cX4_strongest 14 = .ok (.iconst 0, 1) := by decide +kernel
theorem dX4_strongest_15 : decode cX4_strongest 15 = .ok (.istore_n 3, 1) := by decide +kernel
theorem dX4_strongest_16 : decode cX4_strongest 16 = .ok (.iload_n 3, 1) := by decide +kernel
theorem dX4_strongest_17 : decode cX4_strongest 17 = .ok (.aload_n 0, 1) := by decide +kernel
theorem dX4_strongest_18 : decode cX4_strongest 18 = .ok (.getfield 32, 3) := by decide +kernel
theorem dX4_strongest_21 : decode cX4_strongest 21 = .ok (.arraylength, 1) := by decide +kernel
theorem dX4_strongest_22 : decode cX4_strongest 22 = .ok (.if_icmp .ge 24, 3) := by decide +kernel
theorem dX4_strongest_25 : decode cX4_strongest 25 = .ok (.aload_n 0, 1) := by decide +kernel
theorem dX4_strongest_26 : decode cX4_strongest 26 = .ok (.getfield 32, 3) := by decide +kernel
theorem dX4_strongest_29 : decode cX4_strongest 29 = .ok (.iload_n 3, 1) := by decide +kernel
theorem dX4_strongest_30 : decode cX4_strongest 30 = .ok (.laload, 1) := by decide +kernel
theorem dX4_strongest_31 : decode cX4_strongest 31 = .ok (.lload_n 1, 1) := by decide +kernel
theorem dX4_strongest_32 : decode cX4_strongest 32 = .ok (.lcmp, 1) := by decide +kernel
theorem dX4_strongest_33 : decode cX4_strongest 33 = .ok (.ifCond .ne 7, 3) := by decide +kernel
theorem dX4_strongest_36 : decode cX4_strongest 36 = .ok (.iload_n 3, 1) := by decide +kernel
theorem dX4_strongest_37 : decode cX4_strongest 37 = .ok (.iconst 4, 1) := by decide +kernel
theorem dX4_strongest_38 : decode cX4_strongest 38 = .ok (.isub, 1) := by decide +kernel
theorem dX4_strongest_39 : decode cX4_strongest 39 = .ok (.ireturn, 1) := by decide +kernel
theorem dX4_strongest_40 : decode cX4_strongest 40 = .ok (.iinc 3 1, 3) := by decide +kernel
theorem dX4_strongest_43 : decode cX4_strongest 43 = .ok (.goto (-27), 3) := by decide +kernel
theorem dX4_strongest_46 : decode cX4_strongest 46 = .ok (.bipush (-99), 2) := by decide +kernel
theorem dX4_strongest_48 : decode cX4_strongest 48 = .ok (.ireturn, 1) := by decide +kernel
theorem dX4_takeAway_0 : decode cX4_takeAway 0 = .ok (.lload_n 2, 1) := by decide +kernel
theorem dX4_takeAway_1 : decode cX4_takeAway 1 = .ok (.lconst 0, 1) := by decide +kernel
theorem dX4_takeAway_2 : decode cX4_takeAway 2 = .ok (.lcmp, 1) := by decide +kernel
theorem dX4_takeAway_3 : decode cX4_takeAway 3 = .ok (.ifCond .gt 4, 3) := by decide +kernel
theorem dX4_takeAway_6 : decode cX4_takeAway 6 = .ok (.return_, 1) := by decide +kernel
theorem dX4_takeAway_7 : decode cX4_takeAway 7 = .ok (.aload_n 0, 1) := by decide +kernel
theorem dX4_takeAway_8 : decode cX4_takeAway 8 = .ok (.iload_n 1, 1) := by decide +kernel
theorem dX4_takeAway_9 : decode cX4_takeAway 9 = .ok (.invokevirtual 146, 3) := by decide +kernel
theorem dX4_takeAway_12 : decode cX4_takeAway 12 = .ok (.iconst 0, 1) := by decide +kernel
theorem dX4_takeAway_13 : decode cX4_takeAway 13 = .ok (.istore 4, 2) := by decide +kernel
theorem dX4_takeAway_15 : decode cX4_takeAway 15 = .ok (.iload 4, 2) := by decide +kernel
theorem dX4_takeAway_17 : decode cX4_takeAway 17 = .ok (.aload_n 0, 1) := by decide +kernel
theorem dX4_takeAway_18 : decode cX4_takeAway 18 = .ok (.getfield 28, 3) := by decide +kernel
theorem dX4_takeAway_21 : decode cX4_takeAway 21 = .ok (.arraylength, 1) := by decide +kernel
theorem dX4_takeAway_22 : decode cX4_takeAway 22 = .ok (.if_icmp .ge 66, 3) := by decide +kernel
theorem dX4_takeAway_25 : decode cX4_takeAway 25 = .ok (.aload_n 0, 1) := by decide +kernel
theorem dX4_takeAway_26 : decode cX4_takeAway 26 = .ok (.getfield 28, 3) := by decide +kernel
theorem dX4_takeAway_29 : decode cX4_takeAway 29 = .ok (.iload 4, 2) := by decide +kernel
theorem dX4_takeAway_31 : decode cX4_takeAway 31 = .ok (.laload, 1) := by decide +kernel
theorem dX4_takeAway_32 : decode cX4_takeAway 32 = .ok (.lload_n 2, 1) := by decide +kernel
theorem dX4_takeAway_33 : decode cX4_takeAway 33 = .ok (.invokestatic 246, 3) := by decide +kernel
theorem dX4_takeAway_36 : decode cX4_takeAway 36 = .ok (.lstore 5, 2) := by decide +kernel
theorem dX4_takeAway_38 : decode cX4_takeAway 38 = .ok (.aload_n 0, 1) := by decide +kernel
theorem dX4_takeAway_39 : decode cX4_takeAway 39 = .ok (.getfield 11, 3) := by decide +kernel
theorem dX4_takeAway_42 : decode cX4_takeAway 42 = .ok (.astore 7, 2) := by decide +kernel
theorem dX4_takeAway_44 : decode cX4_takeAway 44 = .ok (.aload 7, 2) := by decide +kernel
theorem dX4_takeAway_46 : decode cX4_takeAway 46 = .ok (.arraylength, 1) := by decide +kernel
theorem dX4_takeAway_47 : decode cX4_takeAway 47 = .ok (.istore 8, 2) := by decide +kernel
theorem dX4_takeAway_49 : decode cX4_takeAway 49 = .ok (.iconst 0, 1) := by decide +kernel
theorem dX4_takeAway_50 : decode cX4_takeAway 50 = .ok (.istore 9, 2) := by decide +kernel
theorem dX4_takeAway_52 : decode cX4_takeAway 52 = .ok (.iload 9, 2) := by decide +kernel
theorem dX4_takeAway_54 : decode cX4_takeAway 54 = .ok (.iload 8, 2) := by decide +kernel
theorem dX4_takeAway_56 : decode cX4_takeAway 56 = .ok (.if_icmp .ge 26, 3) := by decide +kernel
theorem dX4_takeAway_59 : decode cX4_takeAway 59 = .ok (.aload 7, 2) := by decide +kernel
theorem dX4_takeAway_61 : decode cX4_takeAway 61 = .ok (.iload 9, 2) := by decide +kernel
theorem dX4_takeAway_63 : decode cX4_takeAway 63 = .ok (.aaload, 1) := by decide +kernel
theorem dX4_takeAway_64 : decode cX4_takeAway 64 = .ok (.astore 10, 2) := by decide +kernel
theorem dX4_takeAway_66 : decode cX4_takeAway 66 = .ok (.aload 10, 2) := by decide +kernel
theorem dX4_takeAway_68 : decode cX4_takeAway 68 = .ok (.iload 4, 2) := by decide +kernel
theorem dX4_takeAway_70 : decode cX4_takeAway 70 = .ok (.iload_n 1, 1) := by decide +kernel
theorem dX4_takeAway_71 : decode cX4_takeAway 71 = .ok (.lload 5, 2) := by decide +kernel
theorem dX4_takeAway_73 : decode cX4_takeAway 73 = .ok (.invokevirtual 249, 3) := by decide +kernel
theorem dX4_takeAway_76 : decode cX4_takeAway 76 = .ok (.iinc 9 1, 3) := by decide +kernel
theorem dX4_takeAway_79 : decode cX4_takeAway 79 = .ok (.goto (-27), 3) := by decide +kernel
theorem dX4_takeAway_82 : decode cX4_takeAway 82 = .ok (.iinc 4 1, 3) := by decide +kernel
theorem dX4_takeAway_85 : decode cX4_takeAway 85 = .ok (.goto (-70), 3) := by decide +kernel
theorem dX4_takeAway_88 : decode cX4_takeAway 88 = .ok (.aload_n 0, 1) := by decide +kernel
theorem dX4_takeAway_89 : decode cX4_takeAway 89 = .ok (.getfield 11, 3) := by decide +kernel
theorem dX4_takeAway_92 : decode cX4_takeAway 92 = .ok (.astore 4, 2) := by decide +kernel
theorem dX4_takeAway_94 : decode cX4_takeAway 94 = .ok (.aload 4, 2) := by decide +kernel
theorem dX4_takeAway_96 : decode cX4_takeAway 96 = .ok (.arraylength, 1) := by decide +kernel
theorem dX4_takeAway_97 : decode cX4_takeAway 97 = .ok (.istore 5, 2) := by decide +kernel
theorem dX4_takeAway_99 : decode cX4_takeAway 99 = .ok (.iconst 0, 1) := by decide +kernel
theorem dX4_takeAway_100 : decode cX4_takeAway 100 = .ok (.istore 6, 2) := by decide +kernel
theorem dX4_takeAway_102 : decode cX4_takeAway 102 = .ok (.iload 6, 2) := by decide +kernel
theorem dX4_takeAway_104 : decode cX4_takeAway 104 = .ok (.iload 5, 2) := by decide +kernel
theorem dX4_takeAway_106 : decode cX4_takeAway 106 = .ok (.if_icmp .ge 21, 3) := by decide +kernel
theorem dX4_takeAway_109 : decode cX4_takeAway 109 = .ok (.aload 4, 2) := by decide +kernel
theorem dX4_takeAway_111 : decode cX4_takeAway 111 = .ok (.iload 6, 2) := by decide +kernel
theorem dX4_takeAway_113 : decode cX4_takeAway 113 = .ok (.aaload, 1) := by decide +kernel
theorem dX4_takeAway_114 : decode cX4_takeAway 114 = .ok (.astore 7, 2) := by decide +kernel
theorem dX4_takeAway_116 : decode cX4_takeAway 116 = .ok (.aload 7, 2) := by decide +kernel
theorem dX4_takeAway_118 : decode cX4_takeAway 118 = .ok (.invokevirtual 252, 3) := by decide +kernel
theorem dX4_takeAway_121 : decode cX4_takeAway 121 = .ok (.iinc 6 1, 3) := by decide +kernel
theorem dX4_takeAway_124 : decode cX4_takeAway 124 = .ok (.goto (-22), 3) := by decide +kernel
theorem dX4_takeAway_127 : decode cX4_takeAway 127 = .ok (.return_, 1) := by decide +kernel
theorem dX4_lowestLiving_0 : decode cX4_lowestLiving 0 = .ok (.aload_n 0, 1) := by decide +kernel
theorem dX4_lowestLiving_1 : decode cX4_lowestLiving 1 = .ok (.getfield 11, 3) := by decide +kernel
theorem dX4_lowestLiving_4 : decode cX4_lowestLiving 4 = .ok (.astore_n 1, 1) := by decide +kernel
theorem dX4_lowestLiving_5 : decode cX4_lowestLiving 5 = .ok (.aload_n 1, 1) := by decide +kernel
theorem dX4_lowestLiving_6 : decode cX4_lowestLiving 6 = .ok (.arraylength, 1) := by decide +kernel
theorem dX4_lowestLiving_7 : decode cX4_lowestLiving 7 = .ok (.istore_n 2, 1) := by decide +kernel
theorem dX4_lowestLiving_8 : decode cX4_lowestLiving 8 = .ok (.iconst 0, 1) := by decide +kernel
theorem dX4_lowestLiving_9 : decode cX4_lowestLiving 9 = .ok (.istore_n 3, 1) := by decide +kernel
theorem dX4_lowestLiving_10 : decode cX4_lowestLiving 10 = .ok (.iload_n 3, 1) := by decide +kernel
theorem dX4_lowestLiving_11 : decode cX4_lowestLiving 11 = .ok (.iload_n 2, 1) := by decide +kernel
theorem dX4_lowestLiving_12 : decode cX4_lowestLiving 12 = .ok (.if_icmp .ge 25, 3) := by decide +kernel
theorem dX4_lowestLiving_15 : decode cX4_lowestLiving 15 = .ok (.aload_n 1, 1) := by decide +kernel
theorem dX4_lowestLiving_16 : decode cX4_lowestLiving 16 = .ok (.iload_n 3, 1) := by decide +kernel
theorem dX4_lowestLiving_17 : decode cX4_lowestLiving 17 = .ok (.aaload, 1) := by decide +kernel
theorem dX4_lowestLiving_18 : decode cX4_lowestLiving 18 = .ok (.astore 4, 2) := by decide +kernel
theorem dX4_lowestLiving_20 : decode cX4_lowestLiving 20 = .ok (.aload 4, 2) := by decide +kernel
theorem dX4_lowestLiving_22 : decode cX4_lowestLiving 22 = .ok (.invokevirtual 76, 3) := by decide +kernel
theorem dX4_lowestLiving_25 : decode cX4_lowestLiving 25 = .ok (.ifCond .eq 6, 3) := by decide +kernel
theorem dX4_lowestLiving_28 : decode cX4_lowestLiving 28 = .ok (.aload 4, 2) := by decide +kernel
theorem dX4_lowestLiving_30 : decode cX4_lowestLiving 30 = .ok (.areturn, 1) := by decide +kernel
theorem dX4_lowestLiving_31 : decode cX4_lowestLiving 31 = .ok (.iinc 3 1, 3) := by decide +kernel
theorem dX4_lowestLiving_34 : decode cX4_lowestLiving 34 = .ok (.goto (-24), 3) := by decide +kernel
theorem dX4_lowestLiving_37 : decode cX4_lowestLiving 37 = .ok (.aconst_null, 1) := by decide +kernel
theorem dX4_lowestLiving_38 : decode cX4_lowestLiving 38 = .ok (.areturn, 1) := by decide +kernel
theorem dX4_holdTo_0 : decode cX4_holdTo 0 = .ok (.aload_n 1, 1) := by decide +kernel
theorem dX4_holdTo_1 : decode cX4_holdTo 1 = .ok (.bipush 64, 2) := by decide +kernel
theorem dX4_holdTo_3 : decode cX4_holdTo 3 = .ok (.iconst 0, 1) := by decide +kernel
theorem dX4_holdTo_4 : decode cX4_holdTo 4 = .ok (.invokevirtual 255, 3) := by decide +kernel
theorem dX4_holdTo_7 : decode cX4_holdTo 7 = .ok (.ifCond .eq 7, 3) := by decide +kernel
theorem dX4_holdTo_10 : decode cX4_holdTo 10 = .ok (.iconst 1, 1) := by decide +kernel
theorem dX4_holdTo_11 : decode cX4_holdTo 11 = .ok (.goto 4, 3) := by decide +kernel
theorem dX4_holdTo_14 : decode cX4_holdTo 14 = .ok (.iconst 0, 1) := by decide +kernel
theorem dX4_holdTo_15 : decode cX4_holdTo 15 = .ok (.istore 5, 2) := by decide +kernel
theorem dX4_holdTo_17 : decode cX4_holdTo 17 = .ok (.aload_n 0, 1) := by decide +kernel
theorem dX4_holdTo_18 : decode cX4_holdTo 18 = .ok (.getfield 11, 3) := by decide +kernel
theorem dX4_holdTo_21 : decode cX4_holdTo 21 = .ok (.astore 6, 2) := by decide +kernel
theorem dX4_holdTo_23 : decode cX4_holdTo 23 = .ok (.aload 6, 2) := by decide +kernel
theorem dX4_holdTo_25 : decode cX4_holdTo 25 = .ok (.arraylength, 1) := by decide +kernel
theorem dX4_holdTo_26 : decode cX4_holdTo 26 = .ok (.istore 7, 2) := by decide +kernel
theorem dX4_holdTo_28 : decode cX4_holdTo 28 = .ok (.iconst 0, 1) := by decide +kernel
theorem dX4_holdTo_29 : decode cX4_holdTo 29 = .ok (.istore 8, 2) := by decide +kernel
theorem dX4_holdTo_31 : decode cX4_holdTo 31 = .ok (.iload 8, 2) := by decide +kernel
theorem dX4_holdTo_33 : decode cX4_holdTo 33 = .ok (.iload 7, 2) := by decide +kernel
theorem dX4_holdTo_35 : decode cX4_holdTo 35 = .ok (.if_icmp .ge 45, 3) := by decide +kernel
theorem dX4_holdTo_38 : decode cX4_holdTo 38 = .ok (.aload 6, 2) := by decide +kernel
theorem dX4_holdTo_40 : decode cX4_holdTo 40 = .ok (.iload 8, 2) := by decide +kernel
theorem dX4_holdTo_42 : decode cX4_holdTo 42 = .ok (.aaload, 1) := by decide +kernel
theorem dX4_holdTo_43 : decode cX4_holdTo 43 = .ok (.astore 9, 2) := by decide +kernel
theorem dX4_holdTo_45 : decode cX4_holdTo 45 = .ok (.aload 9, 2) := by decide +kernel
