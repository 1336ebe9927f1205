theorem dX4_found_47 : decode cX4_found 47 = .ok (.iload 4, 2) := by decide +kernel
theorem dX4_found_49 : decode cX4_found 49 = .ok (.lload_n 2, 1) := by decide +kernel
theorem dX4_found_50 : decode cX4_found 50 = .ok (.invokevirtual 172, 3) := by decide +kernel
theorem dX4_found_53 : decode cX4_found 53 = .ok (.aload_n 0, 1) := by decide +kernel
theorem dX4_found_54 : decode cX4_found 54 = .ok (.invokevirtual 169, 3) := by decide +kernel
theorem dX4_found_57 : decode cX4_found 57 = .ok (.istore 4, 2) := by decide +kernel
theorem dX4_found_59 : decode cX4_found 59 = .ok (.iinc 5 1, 3) := by decide +kernel
theorem dX4_found_62 : decode cX4_found 62 = .ok (.goto (-29), 3) := by decide +kernel
theorem dX4_found_65 : decode cX4_found 65 = .ok (.iload 4, 2) := by decide +kernel
theorem dX4_found_67 : decode cX4_found 67 = .ok (.ireturn, 1) := by decide +kernel
theorem dX4_calibrated_0 : decode cX4_calibrated 0 = .ok (.aload_n 0, 1) := by decide +kernel
theorem dX4_calibrated_1 : decode cX4_calibrated 1 = .ok (.iload_n 1, 1) := by decide +kernel
theorem dX4_calibrated_2 : decode cX4_calibrated 2 = .ok (.invokevirtual 67, 3) := by decide +kernel
theorem dX4_calibrated_5 : decode cX4_calibrated 5 = .ok (.ifCond .ne 13, 3) := by decide +kernel
theorem dX4_calibrated_8 : decode cX4_calibrated 8 = .ok (.new 71, 3) := by decide +kernel
theorem dX4_calibrated_11 : decode cX4_calibrated 11 = .ok (.dup, 1) := by decide +kernel
theorem dX4_calibrated_12 : decode cX4_calibrated 12 = .ok (.ldc 73, 2) := by decide +kernel
theorem dX4_calibrated_14 : decode cX4_calibrated 14 = .ok (.invokespecial 75, 3) := by decide +kernel
theorem dX4_calibrated_17 : decode cX4_calibrated 17 = .ok (.athrow, 1) := by decide +kernel
theorem dX4_calibrated_18 : decode cX4_calibrated 18 = .ok (.iload_n 2, 1) := by decide +kernel
theorem dX4_calibrated_19 : decode cX4_calibrated 19 = .ok (.ifCond .eq 15, 3) := by decide +kernel
theorem dX4_calibrated_22 : decode cX4_calibrated 22 = .ok (.aload_n 0, 1) := by decide +kernel
theorem dX4_calibrated_23 : decode cX4_calibrated 23 = .ok (.getfield 11, 3) := by decide +kernel
theorem dX4_calibrated_26 : decode cX4_calibrated 26 = .ok (.iload_n 1, 1) := by decide +kernel
theorem dX4_calibrated_27 : decode cX4_calibrated 27 = .ok (.aaload, 1) := by decide +kernel
theorem dX4_calibrated_28 : decode cX4_calibrated 28 = .ok (.invokevirtual 176, 3) := by decide +kernel
theorem dX4_calibrated_31 : decode cX4_calibrated 31 = .ok (.goto 12, 3) := by decide +kernel
theorem dX4_calibrated_34 : decode cX4_calibrated 34 = .ok (.aload_n 0, 1) := by decide +kernel
theorem dX4_calibrated_35 : decode cX4_calibrated 35 = .ok (.getfield 11, 3) := by decide +kernel
theorem dX4_calibrated_38 : decode cX4_calibrated 38 = .ok (.iload_n 1, 1) := by decide +kernel
theorem dX4_calibrated_39 : decode cX4_calibrated 39 = .ok (.aaload, 1) := by decide +kernel
theorem dX4_calibrated_40 : decode cX4_calibrated 40 = .ok (.invokevirtual 179, 3) := by decide +kernel
theorem dX4_calibrated_43 : decode cX4_calibrated 43 = .ok (.ireturn, 1) := by decide +kernel
theorem dX4_tick_0 : decode cX4_tick 0 = .ok (.aload_n 0, 1) := by decide +kernel
theorem dX4_tick_1 : decode cX4_tick 1 = .ok (.getfield 60, 3) := by decide +kernel
theorem dX4_tick_4 : decode cX4_tick 4 = .ok (.ireturn, 1) := by decide +kernel
theorem dX4_isWithin_0 : decode cX4_isWithin 0 = .ok (.iload_n 0, 1) := by decide +kernel
theorem dX4_isWithin_1 : decode cX4_isWithin 1 = .ok (.iload_n 1, 1) := by decide +kernel
theorem dX4_isWithin_2 : decode cX4_isWithin 2 = .ok (.if_icmp .lt 12, 3) := by decide +kernel
theorem dX4_isWithin_5 : decode cX4_isWithin 5 = .ok (.iload_n 0, 1) := by decide +kernel
theorem dX4_isWithin_6 : decode cX4_isWithin 6 = .ok (.iload_n 2, 1) := by decide +kernel
theorem dX4_isWithin_7 : decode cX4_isWithin 7 = .ok (.if_icmp .gt 7, 3) := by decide +kernel
theorem dX4_isWithin_10 : decode cX4_isWithin 10 = .ok (.iconst 1, 1) := by decide +kernel
theorem dX4_isWithin_11 : decode cX4_isWithin 11 = .ok (.goto 4, 3) := by decide +kernel
theorem dX4_isWithin_14 : decode cX4_isWithin 14 = .ok (.iconst 0, 1) := by decide +kernel
theorem dX4_isWithin_15 : decode cX4_isWithin 15 = .ok (.ireturn, 1) := by decide +kernel
theorem dX4_isBearing_0 : decode cX4_isBearing 0 = .ok (.iload_n 0, 1) := by decide +kernel
theorem dX4_isBearing_1 : decode cX4_isBearing 1 = .ok (.bipush (-4), 2) := by decide +kernel
theorem dX4_isBearing_3 : decode cX4_isBearing 3 = .ok (.iconst 4, 1) := by decide +kernel
theorem dX4_isBearing_4 : decode cX4_isBearing 4 = .ok (.invokestatic 41, 3) := by decide +kernel
theorem dX4_isBearing_7 : decode cX4_isBearing 7 = .ok (.ireturn, 1) := by decide +kernel
theorem dX4_isElement_0 : decode cX4_isElement 0 = .ok (.iload_n 1, 1) := by decide +kernel
theorem dX4_isElement_1 : decode cX4_isElement 1 = .ok (.ifCond .lt 24, 3) := by decide +kernel
theorem dX4_isElement_4 : decode cX4_isElement 4 = .ok (.iload_n 1, 1) := by decide +kernel
theorem dX4_isElement_5 : decode cX4_isElement 5 = .ok (.aload_n 0, 1) := by decide +kernel
theorem dX4_isElement_6 : decode cX4_isElement 6 = .ok (.getfield 52, 3) := by decide +kernel
theorem dX4_isElement_9 : decode cX4_isElement 9 = .ok (.if_icmp .ge 16, 3) := by decide +kernel
theorem dX4_isElement_12 : decode cX4_isElement 12 = .ok (.iload_n 1, 1) := by decide +kernel
theorem dX4_isElement_13 : decode cX4_isElement 13 = .ok (.aload_n 0, 1) := by decide +kernel
theorem dX4_isElement_14 : decode cX4_isElement 14 = .ok (.getfield 11, 3) := by decide +kernel
theorem dX4_isElement_17 : decode cX4_isElement 17 = .ok (.arraylength, 1) := by decide +kernel
theorem dX4_isElement_18 : decode cX4_isElement 18 = .ok (.if_icmp .ge 7, 3) := by decide +kernel
theorem dX4_isElement_21 : decode cX4_isElement 21 = .ok (.iconst 1, 1) := by decide +kernel
theorem dX4_isElement_22 : decode cX4_isElement 22 = .ok (.goto 4, 3) := by decide +kernel
theorem dX4_isElement_25 : decode cX4_isElement 25 = .ok (.iconst 0, 1) := by decide +kernel
theorem dX4_isElement_26 : decode cX4_isElement 26 = .ok (.ireturn, 1) := by decide +kernel
theorem dX4_hearOneTick_0 : decode cX4_hearOneTick 0 = .ok (.aload_n 0, 1) := by decide +kernel
theorem dX4_hearOneTick_1 : decode cX4_hearOneTick 1 = .ok (.getfield 11, 3) := by decide +kernel
theorem dX4_hearOneTick_4 : decode cX4_hearOneTick 4 = .ok (.astore_n 1, 1) := by decide +kernel
theorem dX4_hearOneTick_5 : decode cX4_hearOneTick 5 = .ok (.aload_n 1, 1) := by decide +kernel
theorem dX4_hearOneTick_6 : decode cX4_hearOneTick 6 = .ok (.arraylength, 1) := by decide +kernel
theorem dX4_hearOneTick_7 : decode cX4_hearOneTick 7 = .ok (.istore_n 2, 1) := by decide +kernel
theorem dX4_hearOneTick_8 : decode cX4_hearOneTick 8 = .ok (.iconst 0, 1) := by decide +kernel
theorem dX4_hearOneTick_9 : decode cX4_hearOneTick 9 = .ok (.istore_n 3, 1) := by decide +kernel
theorem dX4_hearOneTick_10 : decode cX4_hearOneTick 10 = .ok (.iload_n 3, 1) := by decide +kernel
theorem dX4_hearOneTick_11 : decode cX4_hearOneTick 11 = .ok (.iload_n 2, 1) := by decide +kernel
theorem dX4_hearOneTick_12 : decode cX4_hearOneTick 12 = .ok (.if_icmp .ge 62, 3) := by decide +kernel
theorem dX4_hearOneTick_15 : decode cX4_hearOneTick 15 = .ok (.aload_n 1, 1) := by decide +kernel
theorem dX4_hearOneTick_16 : decode cX4_hearOneTick 16 = .ok (.iload_n 3, 1) := by decide +kernel
theorem dX4_hearOneTick_17 : decode cX4_hearOneTick 17 = .ok (.aaload, 1) := by decide +kernel
theorem dX4_hearOneTick_18 : decode cX4_hearOneTick 18 = .ok (.astore 4, 2) := by decide +kernel
theorem dX4_hearOneTick_20 : decode cX4_hearOneTick 20 = .ok (.aload 4, 2) := by decide +kernel
theorem dX4_hearOneTick_22 : decode cX4_hearOneTick 22 = .ok (.invokevirtual 182, 3) := by decide +kernel
theorem dX4_hearOneTick_25 : decode cX4_hearOneTick 25 = .ok (.ifCond .eq 43, 3) := by decide +kernel
theorem dX4_hearOneTick_28 : decode cX4_hearOneTick 28 = .ok (.aload_n 0, 1) := by decide +kernel
theorem dX4_hearOneTick_29 : decode cX4_hearOneTick 29 = .ok (.getfield 24, 3) := by decide +kernel
theorem dX4_hearOneTick_32 : decode cX4_hearOneTick 32 = .ok (.invokevirtual 185, 3) := by decide +kernel
theorem dX4_hearOneTick_35 : decode cX4_hearOneTick 35 = .ok (.istore 5, 2) := by decide +kernel
theorem dX4_hearOneTick_37 : decode cX4_hearOneTick 37 = .ok (.aload 4, 2) := by decide +kernel
theorem dX4_hearOneTick_39 : decode cX4_hearOneTick 39 = .ok (.aload 4, 2) := by decide +kernel
theorem dX4_hearOneTick_41 : decode cX4_hearOneTick 41 = .ok (.invokevirtual 76, 3) := by decide +kernel
theorem dX4_hearOneTick_44 : decode cX4_hearOneTick 44 = .ok (.ifCond .eq 20, 3) := by decide +kernel
theorem dX4_hearOneTick_47 : decode cX4_hearOneTick 47 = .ok (.aload 4, 2) := by decide +kernel
theorem dX4_hearOneTick_49 : decode cX4_hearOneTick 49 = .ok (.aload_n 0, 1) := by decide +kernel
theorem dX4_hearOneTick_50 : decode cX4_hearOneTick 50 = .ok (.aload 4, 2) := by decide +kernel
theorem dX4_hearOneTick_52 : decode cX4_hearOneTick 52 = .ok (.invokevirtual 188, 3) := by decide +kernel
theorem dX4_hearOneTick_55 : decode cX4_hearOneTick 55 = .ok (.invokevirtual 192, 3) := by decide +kernel
theorem dX4_hearOneTick_58 : decode cX4_hearOneTick 58 = .ok (.iload 5, 2) := by decide +kernel
theorem dX4_hearOneTick_60 : decode cX4_hearOneTick 60 = .ok (.iadd, 1) := by decide +kernel
theorem dX4_hearOneTick_61 : decode cX4_hearOneTick 61 = .ok (.goto 4, 3) := by decide +kernel
theorem dX4_hearOneTick_64 : decode cX4_hearOneTick 64 = .ok (.iconst 0, 1) := by decide +kernel
theorem dX4_hearOneTick_65 : decode cX4_hearOneTick 65 = .ok (.invokevirtual 195, 3) := by decide +kernel
theorem dX4_hearOneTick_68 : decode cX4_hearOneTick 68 = .ok (.iinc 3 1, 3) := by decide +kernel
theorem dX4_hearOneTick_71 : decode cX4_hearOneTick 71 = .ok (.goto (-61), 3) := by decide +kernel
theorem dX4_hearOneTick_74 : decode cX4_hearOneTick 74 = .ok (.aload_n 0, 1) := by decide +kernel
theorem dX4_hearOneTick_75 : decode cX4_hearOneTick 75 = .ok (.dup, 1) := by decide +kernel
theorem dX4_hearOneTick_76 : decode cX4_hearOneTick 76 = .ok (.getfield 60, 3) := by decide +kernel
theorem dX4_hearOneTick_79 : decode cX4_hearOneTick 79 = .ok (.iconst 1, 1) := by decide +kernel
theorem dX4_hearOneTick_80 : decode cX4_hearOneTick 80 = .ok (.iadd, 1) := by decide +kernel
theorem dX4_hearOneTick_81 : decode cX4_hearOneTick 81 = .ok (.putfield 60, 3) := by decide +kernel
theorem dX4_hearOneTick_84 : decode cX4_hearOneTick 84 = .ok (.return_, 1) := by decide +kernel
theorem dX4_wavesAt_0 : decode cX4_wavesAt 0 = .ok (.iconst 0, 1) := by decide +kernel
theorem dX4_wavesAt_1 : decode cX4_wavesAt 1 = .ok (.istore_n 2, 1) := by decide +kernel
theorem dX4_wavesAt_2 : decode cX4_wavesAt 2 = .ok (.iconst 0, 1) := by decide +kernel
theorem dX4_wavesAt_3 : decode cX4_wavesAt 3 = .ok (.istore_n 3, 1) := by decide +kernel
theorem dX4_wavesAt_4 : decode cX4_wavesAt 4 = .ok (.iload_n 3, 1) := by decide +kernel
theorem dX4_wavesAt_5 : decode cX4_wavesAt 5 = .ok (.aload_n 0, 1) := by decide +kernel
theorem dX4_wavesAt_6 : decode cX4_wavesAt 6 = .ok (.getfield 91, 3) := by decide +kernel
theorem dX4_wavesAt_9 : decode cX4_wavesAt 9 = .ok (.if_icmp .ge 53, 3) := by decide +kernel
theorem dX4_wavesAt_12 : decode cX4_wavesAt 12 = .ok (.iload_n 3, 1) := by decide +kernel
theorem dX4_wavesAt_13 : decode cX4_wavesAt 13 = .ok (.aload_n 0, 1) := by decide +kernel
theorem dX4_wavesAt_14 : decode cX4_wavesAt 14 = .ok (.getfield 17, 3) := by decide +kernel
theorem dX4_wavesAt_17 : decode cX4_wavesAt 17 = .ok (.arraylength, 1) := by decide +kernel
theorem dX4_wavesAt_18 : decode cX4_wavesAt 18 = .ok (.if_icmp .ge 44, 3) := by decide +kernel
theorem dX4_wavesAt_21 : decode cX4_wavesAt 21 = .ok (.aload_n 0, 1) := by decide +kernel
theorem dX4_wavesAt_22 : decode cX4_wavesAt 22 = .ok (.getfield 17, 3) := by decide +kernel
theorem dX4_wavesAt_25 : decode cX4_wavesAt 25 = .ok (.iload_n 3, 1) := by decide +kernel
theorem dX4_wavesAt_26 : decode cX4_wavesAt 26 = .ok (.aaload, 1) := by decide +kernel
theorem dX4_wavesAt_27 : decode cX4_wavesAt 27 = .ok (.astore 4, 2) := by decide +kernel
theorem dX4_wavesAt_29 : decode cX4_wavesAt 29 = .ok (.iload_n 2, 1) := by decide +kernel
theorem dX4_wavesAt_30 : decode cX4_wavesAt 30 = .ok (.aload 4, 2) := by decide +kernel
theorem dX4_wavesAt_32 : decode cX4_wavesAt 32 = .ok (.aload_n 0, 1) := by decide +kernel
theorem dX4_wavesAt_33 : decode cX4_wavesAt 33 = .ok (.getfield 60, 3) := by decide +kernel
theorem dX4_wavesAt_36 : decode cX4_wavesAt 36 = .ok (.aload_n 1, 1) := by decide +kernel
theorem dX4_wavesAt_37 : decode cX4_wavesAt 37 = .ok (.aload 4, 2) := by decide +kernel
theorem dX4_wavesAt_39 : decode cX4_wavesAt 39 = .ok (.invokevirtual 198, 3) := by decide +kernel
theorem dX4_wavesAt_42 : decode cX4_wavesAt 42 = .ok (.invokevirtual 201, 3) := by decide +kernel
theorem dX4_wavesAt_45 : decode cX4_wavesAt 45 = .ok (.isub, 1) := by decide +kernel
theorem dX4_wavesAt_46 : decode cX4_wavesAt 46 = .ok (.aload_n 1, 1) := by decide +kernel
theorem dX4_wavesAt_47 : decode cX4_wavesAt 47 = .ok (.invokevirtual 204, 3) := by decide +kernel
theorem dX4_wavesAt_50 : decode cX4_wavesAt 50 = .ok (.isub, 1) := by decide +kernel
theorem dX4_wavesAt_51 : decode cX4_wavesAt 51 = .ok (.invokevirtual 207, 3) := by decide +kernel
theorem dX4_wavesAt_54 : decode cX4_wavesAt 54 = .ok (.iadd, 1) := by decide +kernel
theorem dX4_wavesAt_55 : decode cX4_wavesAt 55 = .ok (.istore_n 2, 1) := by decide +kernel
theorem dX4_wavesAt_56 : decode cX4_wavesAt 56 = .ok (.iinc 3 1, 3) := by decide +kernel
theorem dX4_wavesAt_59 : decode cX4_wavesAt 59 = .ok (.goto (-55), 3) := by decide +kernel
theorem dX4_wavesAt_62 : decode cX4_wavesAt 62 = .ok (.iload_n 2, 1) := by decide +kernel
theorem dX4_wavesAt_63 : decode cX4_wavesAt 63 = .ok (.ireturn, 1) := by decide +kernel
theorem dX4_layAll_0 : decode cX4_layAll 0 = .ok (.iconst 0, 1) := by decide +kernel
theorem dX4_layAll_1 : decode cX4_layAll 1 = .ok (.istore_n 1, 1) := by decide +kernel
theorem dX4_layAll_2 : decode cX4_layAll 2 = .ok (.aload_n 0, 1) := by decide +kernel
theorem dX4_layAll_3 : decode cX4_layAll 3 = .ok (.getfield 11, 3) := by decide +kernel
theorem dX4_layAll_6 : decode cX4_layAll 6 = .ok (.astore_n 2, 1) := by decide +kernel
theorem dX4_layAll_7 : decode cX4_layAll 7 = .ok (.aload_n 2, 1) := by decide +kernel
theorem dX4_layAll_8 : decode cX4_layAll 8 = .ok (.arraylength, 1) := by decide +kernel
theorem dX4_layAll_9 : decode cX4_layAll 9 = .ok (.istore_n 3, 1) := by decide +kernel
theorem dX4_layAll_10 : decode cX4_layAll 10 = .ok (.iconst 0, 1) := by decide +kernel
theorem dX4_layAll_11 : decode cX4_layAll 11 = .ok (.istore 4, 2) := by decide +kernel
theorem dX4_layAll_13 : decode cX4_layAll 13 = .ok (.iload 4, 2) := by decide +kernel
theorem dX4_layAll_15 : decode cX4_layAll 15 = .ok (.iload_n 3, 1) := by decide +kernel
theorem dX4_layAll_16 : decode cX4_layAll 16 = .ok (.if_icmp .ge 31, 3) := by decide +kernel
theorem dX4_layAll_19 : decode cX4_layAll 19 = .ok (.aload_n 2, 1) := by decide +kernel
theorem dX4_layAll_20 : decode cX4_layAll 20 = .ok (.iload 4, 2) := by decide +kernel
theorem dX4_layAll_22 : decode cX4_layAll 22 = .ok (.aaload, 1) := by decide +kernel
theorem dX4_layAll_23 : decode cX4_layAll 23 = .ok (.astore 5, 2) := by decide +kernel
theorem dX4_layAll_25 : decode cX4_layAll 25 = .ok (.iload_n 1, 1) := by decide +kernel
theorem dX4_layAll_26 : decode cX4_layAll 26 = .ok (.aload 5, 2) := by decide +kernel
theorem dX4_layAll_28 : decode cX4_layAll 28 = .ok (.invokevirtual 76, 3) := by decide +kernel
theorem dX4_layAll_31 : decode cX4_layAll 31 = .ok (.ifCond .eq 7, 3) := by decide +kernel
theorem dX4_layAll_34 : decode cX4_layAll 34 = .ok (.iconst 1, 1) := by decide +kernel
theorem dX4_layAll_35 : decode cX4_layAll 35 = .ok (.goto 4, 3) := by decide +kernel
theorem dX4_layAll_38 : decode cX4_layAll 38 = .ok (.iconst 0, 1) := by decide +kernel
theorem dX4_layAll_39 : decode cX4_layAll 39 = .ok (.iadd, 1) := by decide +kernel
theorem dX4_layAll_40 : decode cX4_layAll 40 = .ok (.istore_n 1, 1) := by decide +kernel
theorem dX4_layAll_41 : decode cX4_layAll 41 = .ok (.iinc 4 1, 3) := by decide +kernel
theorem dX4_layAll_44 : decode cX4_layAll 44 = .ok (.goto (-31), 3) := by decide +kernel
theorem dX4_layAll_47 : decode cX4_layAll 47 = .ok (.iconst 0, 1) := by decide +kernel
theorem dX4_layAll_48 : decode cX4_layAll 48 = .ok (.istore_n 2, 1) := by decide +kernel
theorem dX4_layAll_49 : decode cX4_layAll 49 = .ok (.lconst 0, 1) := by decide +kernel
theorem dX4_layAll_50 : decode cX4_layAll 50 = .ok (.lstore_n 3, 1) := by decide +kernel
theorem dX4_layAll_51 : decode cX4_layAll 51 = .ok (.aload_n 0, 1) := by decide +kernel
theorem dX4_layAll_52 : decode cX4_layAll 52 = .ok (.getfield 11, 3) := by decide +kernel
theorem dX4_layAll_55 : decode cX4_layAll 55 = .ok (.astore 5, 2) := by decide +kernel
theorem dX4_layAll_57 : decode cX4_layAll 57 = .ok (.aload 5, 2) := by decide +kernel
theorem dX4_layAll_59 : decode cX4_layAll 59 = .ok (.arraylength, 1) := by decide +kernel
theorem dX4_layAll_60 : decode cX4_layAll 60 = .ok (.istore 6, 2) := by decide +kernel
theorem dX4_layAll_62 : decode cX4_layAll 62 = .ok (.iconst 0, 1) := by decide +kernel
theorem dX4_layAll_63 : decode cX4_layAll 63 = .ok (.istore 7, 2) := by decide +kernel
theorem dX4_layAll_65 : decode cX4_layAll 65 = .ok (.iload 7, 2) := by decide +kernel
theorem dX4_layAll_67 : decode cX4_layAll 67 = .ok (.iload 6, 2) := by decide +kernel
theorem dX4_layAll_69 : decode cX4_layAll 69 = .ok (.if_icmp .ge 51, 3) := by decide +kernel
theorem dX4_layAll_72 : decode cX4_layAll 72 = .ok (.aload 5, 2) := by decide +kernel
theorem dX4_layAll_74 : decode cX4_layAll 74 = .ok (.iload 7, 2) := by decide +kernel
theorem dX4_layAll_76 : decode cX4_layAll 76 = .ok (.aaload, 1) := by decide +kernel
theorem dX4_layAll_77 : decode cX4_layAll 77 = .ok (.astore 8, 2) := by decide +kernel
theorem dX4_layAll_79 : decode cX4_layAll 79 = .ok (.iconst 0, 1) := by decide +kernel
theorem dX4_layAll_80 : decode cX4_layAll 80 = .ok (.istore 9, 2) := by decide +kernel
theorem dX4_layAll_82 : decode cX4_layAll 82 = .ok (.aload 8, 2) := by decide +kernel
theorem dX4_layAll_84 : decode cX4_layAll 84 = .ok (.invokevirtual 76, 3) := by decide +kernel
theorem dX4_layAll_87 : decode cX4_layAll 87 = .ok (.ifCond .eq 14, 3) := by decide +kernel
theorem dX4_layAll_90 : decode cX4_layAll 90 = .ok (.aload_n 0, 1) := by decide +kernel
theorem dX4_layAll_91 : decode cX4_layAll 91 = .ok (.iload_n 2, 1) := by decide +kernel
theorem dX4_layAll_92 : decode cX4_layAll 92 = .ok (.iload_n 1, 1) := by decide +kernel
theorem dX4_layAll_93 : decode cX4_layAll 93 = .ok (.invokevirtual 210, 3) := by decide +kernel
theorem dX4_layAll_96 : decode cX4_layAll 96 = .ok (.istore 9, 2) := by decide +kernel
theorem dX4_layAll_98 : decode cX4_layAll 98 = .ok (.iinc 2 1, 3) := by decide +kernel
theorem dX4_layAll_101 : decode cX4_layAll 101 = .ok (.aload 8, 2) := by decide +kernel
theorem dX4_layAll_103 : decode cX4_layAll 103 = .ok (.iload 9, 2) := by decide +kernel
theorem dX4_layAll_105 : decode cX4_layAll 105 = .ok (.invokevirtual 214, 3) := by decide +kernel
theorem dX4_layAll_108 : decode cX4_layAll 108 = .ok (.lload_n 3, 1) := by decide +kernel
theorem dX4_layAll_109 : decode cX4_layAll 109 = .ok (.iload 9, 2) := by decide +kernel
theorem dX4_layAll_111 : decode cX4_layAll 111 = .ok (.i2l, 1) := by decide +kernel
theorem dX4_layAll_112 : decode cX4_layAll 112 = .ok (.ladd, 1) := by decide +kernel
theorem dX4_layAll_113 : decode cX4_layAll 113 = .ok (.lstore_n 3, 1) := by decide +kernel
theorem dX4_layAll_114 : decode cX4_layAll 114 = .ok (.iinc 7 1, 3) := by decide +kernel
theorem dX4_layAll_117 : decode cX4_layAll 117 = .ok (.goto (-52), 3) := by decide +kernel
theorem dX4_layAll_120 : decode cX4_layAll 120 = .ok (.lload_n 3, 1) := by decide +kernel
theorem dX4_layAll_121 : decode cX4_layAll 121 = .ok (.lreturn, 1) := by decide +kernel
theorem dX4_weightOf_0 : decode cX4_weightOf 0 = .ok (.iload_n 2, 1) := by decide +kernel
theorem dX4_weightOf_1 : decode cX4_weightOf 1 = .ok (.iconst 1, 1) := by decide +kernel
theorem dX4_weightOf_2 : decode cX4_weightOf 2 = .ok (.isub, 1) := by decide +kernel
theorem dX4_weightOf_3 : decode cX4_weightOf 3 = .ok (.iload_n 1, 1) := by decide +kernel
theorem dX4_weightOf_4 : decode cX4_weightOf 4 = .ok (.isub, 1) := by decide +kernel
theorem dX4_weightOf_5 : decode cX4_weightOf 5 = .ok (.istore_n 3, 1) := by decide +kernel
theorem dX4_weightOf_6 : decode cX4_weightOf 6 = .ok (.aload_n 0, 1) := by decide +kernel
theorem dX4_weightOf_7 : decode cX4_weightOf 7 = .ok (.getfield 37, 3) := by decide +kernel
theorem dX4_weightOf_10 : decode cX4_weightOf 10 = .ok (.iconst 1, 1) := by decide +kernel
theorem dX4_weightOf_11 : decode cX4_weightOf 11 = .ok (.if_icmp .ne 11, 3) := by decide +kernel
theorem dX4_weightOf_14 : decode cX4_weightOf 14 = .ok (.iconst 1, 1) := by decide +kernel
theorem dX4_weightOf_15 : decode cX4_weightOf 15 = .ok (.iload_n 1, 1) := by decide +kernel
theorem dX4_weightOf_16 : decode cX4_weightOf 16 = .ok (.iload_n 3, 1) := by decide +kernel
theorem dX4_weightOf_17 : decode cX4_weightOf 17 = .ok (.invokestatic 217, 3) := by decide +kernel
theorem dX4_weightOf_20 : decode cX4_weightOf 20 = .ok (.iadd, 1) := by decide +kernel
theorem dX4_weightOf_21 : decode cX4_weightOf 21 = .ok (.ireturn, 1) := by decide +kernel
theorem dX4_weightOf_22 : decode cX4_weightOf 22 = .ok (.aload_n 0, 1) := by decide +kernel
theorem dX4_weightOf_23 : decode cX4_weightOf 23 = .ok (.getfield 37, 3) := by decide +kernel
theorem dX4_weightOf_26 : decode cX4_weightOf 26 = .ok (.iconst 2, 1) := by decide +kernel
theorem dX4_weightOf_27 : decode cX4_weightOf 27 = .ok (.if_icmp .ne 17, 3) := by decide +kernel
theorem dX4_weightOf_30 : decode cX4_weightOf 30 = .ok (.iload_n 1, 1) := by decide +kernel
theorem dX4_weightOf_31 : decode cX4_weightOf 31 = .ok (.ifCond .eq 7, 3) := by decide +kernel
theorem dX4_weightOf_34 : decode cX4_weightOf 34 = .ok (.iload_n 3, 1) := by decide +kernel
theorem dX4_weightOf_35 : decode cX4_weightOf 35 = .ok (.ifCond .ne 7, 3) := by decide +kernel
theorem dX4_weightOf_38 : decode cX4_weightOf 38 = .ok (.iconst 3, 1) := by decide +kernel
theorem dX4_weightOf_39 : decode cX4_weightOf 39 = .ok (.goto 4, 3) := by decide +kernel
theorem dX4_weightOf_42 : decode cX4_weightOf 42 = .ok (.iconst 1, 1) := by decide +kernel
theorem dX4_weightOf_43 : decode cX4_weightOf 43 = .ok (.ireturn, 1) := by decide +kernel
theorem dX4_weightOf_44 : decode cX4_weightOf 44 = .ok (.iconst 1, 1) := by decide +kernel
theorem dX4_weightOf_45 : decode cX4_weightOf 45 = .ok (.ireturn, 1) := by decide +kernel
theorem dX4_steer_0 : decode cX4_steer 0 = .ok (.aload_n 0, 1) := by decide +kernel
theorem dX4_steer_1 : decode cX4_steer 1 = .ok (.getfield 28, 3) := by decide +kernel
theorem dX4_steer_4 : decode cX4_steer 4 = .ok (.lconst 0, 1) := by decide +kernel
theorem dX4_steer_5 : decode cX4_steer 5 = .ok (.invokestatic 222, 3) := by decide +kernel
theorem dX4_steer_8 : decode cX4_steer 8 = .ok (.aload_n 0, 1) := by decide +kernel
theorem dX4_steer_9 : decode cX4_steer 9 = .ok (.getfield 11, 3) := by decide +kernel
theorem dX4_steer_12 : decode cX4_steer 12 = .ok (.astore_n 2, 1) := by decide +kernel
theorem dX4_steer_13 : decode cX4_steer 13 = .ok (.aload_n 2, 1) := by decide +kernel
theorem dX4_steer_14 : decode cX4_steer 14 = .ok (.arraylength, 1) := by decide +kernel
theorem dX4_steer_15 : decode cX4_steer 15 = .ok (.istore_n 3, 1) := by decide +kernel
theorem dX4_steer_16 : decode cX4_steer 16 = .ok (.iconst 0, 1) := by decide +kernel
theorem dX4_steer_17 : decode cX4_steer 17 = .ok (.istore 4, 2) := by decide +kernel
theorem dX4_steer_19 : decode cX4_steer 19 = .ok (.iload 4, 2) := by decide +kernel
theorem dX4_steer_21 : decode cX4_steer 21 = .ok (.iload_n 3, 1) := by decide +kernel
theorem dX4_steer_22 : decode cX4_steer 22 = .ok (.if_icmp .ge 25, 3) := by decide +kernel
theorem dX4_steer_25 : decode cX4_steer 25 = .ok (.aload_n 2, 1) := by decide +kernel
theorem dX4_steer_26 : decode cX4_steer 26 = .ok (.iload 4, 2) := by decide +kernel
theorem dX4_steer_28 : decode cX4_steer 28 = .ok (.aaload, 1) := by decide +kernel
theorem dX4_steer_29 : decode cX4_steer 29 = .ok (.astore 5, 2) := by decide +kernel
theorem dX4_steer_31 : decode cX4_steer 31 = .ok (.aload 5, 2) := by decide +kernel
theorem dX4_steer_33 : decode cX4_steer 33 = .ok (.aload_n 0, 1) := by decide +kernel
theorem dX4_steer_34 : decode cX4_steer 34 = .ok (.getfield 28, 3) := by decide +kernel
theorem dX4_steer_37 : decode cX4_steer 37 = .ok (.iload_n 1, 1) := by decide +kernel
theorem dX4_steer_38 : decode cX4_steer 38 = .ok (.invokevirtual 228, 3) := by decide +kernel
theorem dX4_steer_41 : decode cX4_steer 41 = .ok (.iinc 4 1, 3) := by decide +kernel
theorem dX4_steer_44 : decode cX4_steer 44 = .ok (.goto (-25), 3) := by decide +kernel
theorem dX4_steer_47 : decode cX4_steer 47 = .ok (.return_, 1) := by decide +kernel
theorem dX4_powerBySums_0 : decode cX4_powerBySums 0 = .ok (.aload_n 0, 1) := by decide +kernel
theorem dX4_powerBySums_1 : decode cX4_powerBySums 1 = .ok (.iload_n 1, 1) := by decide +kernel
theorem dX4_powerBySums_2 : decode cX4_powerBySums 2 = .ok (.invokevirtual 146, 3) := by decide +kernel
theorem dX4_powerBySums_5 : decode cX4_powerBySums 5 = .ok (.aload_n 0, 1) := by decide +kernel
theorem dX4_powerBySums_6 : decode cX4_powerBySums 6 = .ok (.invokevirtual 232, 3) := by decide +kernel
theorem dX4_powerBySums_9 : decode cX4_powerBySums 9 = .ok (.lreturn, 1) := by decide +kernel
theorem dX4_squaresOfSums_0 : decode cX4_squaresOfSums 0 = .ok (.lconst 0, 1) := by decide +kernel
theorem dX4_squaresOfSums_1 : decode cX4_squaresOfSums 1 = .ok (.lstore_n 1, 1) := by decide +kernel
theorem dX4_squaresOfSums_2 : decode cX4_squaresOfSums 2 = .ok (.aload_n 0, 1) := by decide +kernel
theorem dX4_squaresOfSums_3 : decode cX4_squaresOfSums 3 = .ok (.getfield 28, 3) := by decide +kernel
theorem dX4_squaresOfSums_6 : decode cX4_squaresOfSums 6 = .ok (.astore_n 3, 1) := by decide +kernel
theorem dX4_squaresOfSums_7 : decode cX4_squaresOfSums 7 = .ok (.aload_n 3, 1) := by decide +kernel
theorem dX4_squaresOfSums_8 : decode cX4_squaresOfSums 8 = .ok (.arraylength, 1) := by decide +kernel
theorem dX4_squaresOfSums_9 : decode cX4_squaresOfSums 9 = .ok (.istore 4, 2) := by decide +kernel
theorem dX4_squaresOfSums_11 : decode cX4_squaresOfSums 11 = .ok (.iconst 0, 1) := by decide +kernel
theorem dX4_squaresOfSums_12 : decode cX4_squaresOfSums 12 = .ok (.istore 5, 2) := by decide +kernel
theorem dX4_squaresOfSums_14 : decode cX4_squaresOfSums 14 = .ok (.iload 5, 2) := by decide +kernel
theorem dX4_squaresOfSums_16 : decode cX4_squaresOfSums 16 = .ok (.iload 4, 2) := by decide +kernel
theorem dX4_squaresOfSums_18 : decode cX4_squaresOfSums 18 = .ok (.if_icmp .ge 23, 3) := by decide +kernel
theorem dX4_squaresOfSums_21 : decode cX4_squaresOfSums 21 = .ok (.aload_n 3, 1) := by decide +kernel
theorem dX4_squaresOfSums_22 : decode cX4_squaresOfSums 22 = .ok (.iload 5, 2) := by decide +kernel
theorem dX4_squaresOfSums_24 : decode cX4_squaresOfSums 24 = .ok (.laload, 1) := by decide +kernel
theorem dX4_squaresOfSums_25 : decode cX4_squaresOfSums 25 = .ok (.lstore 6, 2) := by decide +kernel
theorem dX4_squaresOfSums_27 : decode cX4_squaresOfSums 27 = .ok (.lload_n 1, 1) := by decide +kernel
theorem dX4_squaresOfSums_28 : decode cX4_squaresOfSums 28 = .ok (.lload 6, 2) := by decide +kernel
theorem dX4_squaresOfSums_30 : decode cX4_squaresOfSums 30 = .ok (.lload 6, 2) := by decide +kernel
theorem dX4_squaresOfSums_32 : decode cX4_squaresOfSums 32 = .ok (.lmul, 1) := by decide +kernel
theorem dX4_squaresOfSums_33 : decode cX4_squaresOfSums 33 = .ok (.ladd, 1) := by decide +kernel
theorem dX4_squaresOfSums_34 : decode cX4_squaresOfSums 34 = .ok (.lstore_n 1, 1) := by decide +kernel
theorem dX4_squaresOfSums_35 : decode cX4_squaresOfSums 35 = .ok (.iinc 5 1, 3) := by decide +kernel
theorem dX4_squaresOfSums_38 : decode cX4_squaresOfSums 38 = .ok (.goto (-24), 3) := by decide +kernel
theorem dX4_squaresOfSums_41 : decode cX4_squaresOfSums 41 = .ok (.lload_n 1, 1) := by decide +kernel
theorem dX4_squaresOfSums_42 : decode cX4_squaresOfSums 42 = .ok (.lreturn, 1) := by decide +kernel
theorem dX4_powerByPairs_0 : decode cX4_powerByPairs 0 = .ok (.lconst 0, 1) := by decide +kernel
theorem dX4_powerByPairs_1 : decode cX4_powerByPairs 1 = .ok (.lstore_n 2, 1) := by decide +kernel
theorem dX4_powerByPairs_2 : decode cX4_powerByPairs 2 = .ok (.aload_n 0, 1) := by decide +kernel
theorem dX4_powerByPairs_3 : decode cX4_powerByPairs 3 = .ok (.getfield 11, 3) := by decide +kernel
theorem dX4_powerByPairs_6 : decode cX4_powerByPairs 6 = .ok (.astore 4, 2) := by decide +kernel
theorem dX4_powerByPairs_8 : decode cX4_powerByPairs 8 = .ok (.aload 4, 2) := by decide +kernel
theorem dX4_powerByPairs_10 : decode cX4_powerByPairs 10 = .ok (.arraylength, 1) := by decide +kernel
theorem dX4_powerByPairs_11 : decode cX4_powerByPairs 11 = .ok (.istore 5, 2) := by decide +kernel
theorem dX4_powerByPairs_13 : decode cX4_powerByPairs 13 = .ok (.iconst 0, 1) := by decide +kernel
theorem dX4_powerByPairs_14 : decode cX4_powerByPairs 14 = .ok (.istore 6, 2) := by decide +kernel
theorem dX4_powerByPairs_16 : decode cX4_powerByPairs 16 = .ok (.iload 6, 2) := by decide +kernel
theorem dX4_powerByPairs_18 : decode cX4_powerByPairs 18 = .ok (.iload 5, 2) := by decide +kernel
theorem dX4_powerByPairs_20 : decode cX4_powerByPairs 20 = .ok (.if_icmp .ge 61, 3) := by decide +kernel
theorem dX4_powerByPairs_23 : decode cX4_powerByPairs 23 = .ok (.aload 4, 2) := by decide +kernel
theorem dX4_powerByPairs_25 : decode cX4_powerByPairs 25 = .ok (.iload 6, 2) := by decide +kernel
theorem dX4_powerByPairs_27 : decode cX4_powerByPairs 27 = .ok (.aaload, 1) := by decide +kernel
theorem dX4_powerByPairs_28 : decode cX4_powerByPairs 28 = .ok (.astore 7, 2) := by decide +kernel
theorem dX4_powerByPairs_30 : decode cX4_powerByPairs 30 = .ok (.aload_n 0, 1) := by decide +kernel
theorem dX4_powerByPairs_31 : decode cX4_powerByPairs 31 = .ok (.getfield 11, 3) := by decide +kernel
theorem dX4_powerByPairs_34 : decode cX4_powerByPairs 34 = .ok (.astore 8, 2) := by decide +kernel
theorem dX4_powerByPairs_36 : decode cX4_powerByPairs 36 = .ok (.aload 8, 2) := by decide +kernel
theorem dX4_powerByPairs_38 : decode cX4_powerByPairs 38 = .ok (.arraylength, 1) := by decide +kernel
theorem dX4_powerByPairs_39 : decode cX4_powerByPairs 39 = .ok (.istore 9, 2) := by decide +kernel
theorem dX4_powerByPairs_41 : decode cX4_powerByPairs 41 = .ok (.iconst 0, 1) := by decide +kernel
theorem dX4_powerByPairs_42 : decode cX4_powerByPairs 42 = .ok (.istore 10, 2) := by decide +kernel
theorem dX4_powerByPairs_44 : decode cX4_powerByPairs 44 = .ok (.iload 10, 2) := by decide +kernel
theorem dX4_powerByPairs_46 : decode cX4_powerByPairs 46 = .ok (.iload 9, 2) := by decide +kernel
theorem dX4_powerByPairs_48 : decode cX4_powerByPairs 48 = .ok (.if_icmp .ge 27, 3) := by decide +kernel
theorem dX4_powerByPairs_51 : decode cX4_powerByPairs 51 = .ok (.aload 8, 2) := by decide +kernel
theorem dX4_powerByPairs_53 : decode cX4_powerByPairs 53 = .ok (.iload 10, 2) := by decide +kernel
theorem dX4_powerByPairs_55 : decode cX4_powerByPairs 55 = .ok (.aaload, 1) := by decide +kernel
theorem dX4_powerByPairs_56 : decode cX4_powerByPairs 56 = .ok (.astore 11, 2) := by decide +kernel
theorem dX4_powerByPairs_58 : decode cX4_powerByPairs 58 = .ok (.lload_n 2, 1) := by decide +kernel
theorem dX4_powerByPairs_59 : decode cX4_powerByPairs 59 = .ok (.aload 7, 2) := by decide +kernel
theorem dX4_powerByPairs_61 : decode cX4_powerByPairs 61 = .ok (.aload 11, 2) := by decide +kernel
theorem dX4_powerByPairs_63 : decode cX4_powerByPairs 63 = .ok (.iload_n 1, 1) := by decide +kernel
theorem dX4_powerByPairs_64 : decode cX4_powerByPairs 64 = .ok (.invokevirtual 235, 3) := by decide +kernel
theorem dX4_powerByPairs_67 : decode cX4_powerByPairs 67 = .ok (.ladd, 1) := by decide +kernel
theorem dX4_powerByPairs_68 : decode cX4_powerByPairs 68 = .ok (.lstore_n 2, 1) := by decide +kernel
theorem dX4_powerByPairs_69 : decode cX4_powerByPairs 69 = .ok (.iinc 10 1, 3) := by decide +kernel
theorem dX4_powerByPairs_72 : decode cX4_powerByPairs 72 = .ok (.goto (-28), 3) := by decide +kernel
theorem dX4_powerByPairs_75 : decode cX4_powerByPairs 75 = .ok (.iinc 6 1, 3) := by decide +kernel
theorem dX4_powerByPairs_78 : decode cX4_powerByPairs 78 = .ok (.goto (-62), 3) := by decide +kernel
theorem dX4_powerByPairs_81 : decode cX4_powerByPairs 81 = .ok (.lload_n 2, 1) := by decide +kernel
theorem dX4_powerByPairs_82 : decode cX4_powerByPairs 82 = .ok (.lreturn, 1) := by decide +kernel
theorem dX4_fillPowers_0 : decode cX4_fillPowers 0 = .ok (.lconst 0, 1) := by decide +kernel
theorem dX4_fillPowers_1 : decode cX4_fillPowers 1 = .ok (.lstore_n 1, 1) := by decide +kernel
theorem dX4_fillPowers_2 : decode cX4_fillPowers 2 = .ok (.iconst 0, 1) := by decide +kernel
theorem dX4_fillPowers_3 : decode cX4_fillPowers 3 = .ok (.istore_n 3, 1) := by decide +kernel
theorem dX4_fillPowers_4 : decode cX4_fillPowers 4 = .ok (.iload_n 3, 1) := by decide +kernel
theorem dX4_fillPowers_5 : decode cX4_fillPowers 5 = .ok (.aload_n 0, 1) := by decide +kernel
theorem dX4_fillPowers_6 : decode cX4_fillPowers 6 = .ok (.getfield 32, 3) := by decide +kernel
theorem dX4_fillPowers_9 : decode cX4_fillPowers 9 = .ok (.arraylength, 1) := by decide +kernel
theorem dX4_fillPowers_10 : decode cX4_fillPowers 10 = .ok (.if_icmp .ge 37, 3) := by decide +kernel
theorem dX4_fillPowers_13 : decode cX4_fillPowers 13 = .ok (.aload_n 0, 1) := by decide +kernel
theorem dX4_fillPowers_14 : decode cX4_fillPowers 14 = .ok (.iload_n 3, 1) := by decide +kernel
theorem dX4_fillPowers_15 : decode cX4_fillPowers 15 = .ok (.iconst 4, 1) := by decide +kernel
theorem dX4_fillPowers_16 : decode cX4_fillPowers 16 = .ok (.isub, 1) := by decide +kernel
theorem dX4_fillPowers_17 : decode cX4_fillPowers 17 = .ok (.invokevirtual 146, 3) := by decide +kernel
theorem dX4_fillPowers_20 : decode cX4_fillPowers 20 = .ok (.aload_n 0, 1) := by decide +kernel
theorem dX4_fillPowers_21 : decode cX4_fillPowers 21 = .ok (.getfield 32, 3) := by decide +kernel
theorem dX4_fillPowers_24 : decode cX4_fillPowers 24 = .ok (.iload_n 3, 1) := by decide +kernel
theorem dX4_fillPowers_25 : decode cX4_fillPowers 25 = .ok (.aload_n 0, 1) := by decide +kernel
theorem dX4_fillPowers_26 : decode cX4_fillPowers 26 = .ok (.invokevirtual 232, 3) := by decide +kernel
theorem dX4_fillPowers_29 : decode cX4_fillPowers 29 = .ok (.lastore, 1) := by decide +kernel
theorem dX4_fillPowers_30 : decode cX4_fillPowers 30 = .ok (.lload_n 1, 1) := by decide +kernel
theorem dX4_fillPowers_31 : decode cX4_fillPowers 31 = .ok (.aload_n 0, 1) := by decide +kernel
theorem dX4_fillPowers_32 : decode cX4_fillPowers 32 = .ok (.getfield 32, 3) := by decide +kernel
theorem dX4_fillPowers_35 : decode cX4_fillPowers 35 = .ok (.iload_n 3, 1) := by decide +kernel
theorem dX4_fillPowers_36 : decode cX4_fillPowers 36 = .ok (.laload, 1) := by decide +kernel
theorem dX4_fillPowers_37 : decode cX4_fillPowers 37 = .ok (.invokestatic 239, 3) := by decide +kernel
theorem dX4_fillPowers_40 : decode cX4_fillPowers 40 = .ok (.lstore_n 1, 1) := by decide +kernel
theorem dX4_fillPowers_41 : decode cX4_fillPowers 41 = .ok (.iinc 3 1, 3) := by decide +kernel
theorem dX4_fillPowers_44 : decode cX4_fillPowers 44 = .ok (.goto (-40), 3) := by decide +kernel
theorem dX4_fillPowers_47 : decode cX4_fillPowers 47 = .ok (.lload_n 1, 1) := by decide +kernel
theorem dX4_fillPowers_48 : decode cX4_fillPowers 48 = .ok (.lreturn, 1) := by decide +kernel
theorem dX4_isPeak_0 : decode cX4_isPeak 0 = .ok (.aload_n 0, 1) := by decide +kernel
theorem dX4_isPeak_1 : decode cX4_isPeak 1 = .ok (.iload_n 1, 1) := by decide +kernel
theorem dX4_isPeak_2 : decode cX4_isPeak 2 = .ok (.invokevirtual 243, 3) := by decide +kernel
theorem dX4_isPeak_5 : decode cX4_isPeak 5 = .ok (.lstore_n 2, 1) := by decide +kernel
theorem dX4_isPeak_6 : decode cX4_isPeak 6 = .ok (.lload_n 2, 1) := by decide +kernel
theorem dX4_isPeak_7 : decode cX4_isPeak 7 = .ok (.lconst 0, 1) := by decide +kernel
theorem dX4_isPeak_8 : decode cX4_isPeak 8 = .ok (.lcmp, 1) := by decide +kernel
theorem dX4_isPeak_9 : decode cX4_isPeak 9 = .ok (.ifCond .le 31, 3) := by decide +kernel
theorem dX4_isPeak_12 : decode cX4_isPeak 12 = .ok (.lload_n 2, 1) := by decide +kernel
theorem dX4_isPeak_13 : decode cX4_isPeak 13 = .ok (.aload_n 0, 1) := by decide +kernel
theorem dX4_isPeak_14 : decode cX4_isPeak 14 = .ok (.iload_n 1, 1) := by decide +kernel
theorem dX4_isPeak_15 : decode cX4_isPeak 15 = .ok (.iconst 1, 1) := by decide +kernel
theorem dX4_isPeak_16 : decode cX4_isPeak 16 = .ok (.isub, 1) := by decide +kernel
theorem dX4_isPeak_17 : decode cX4_isPeak 17 = .ok (.invokevirtual 243, 3) := by decide +kernel
theorem dX4_isPeak_20 : decode cX4_isPeak 20 = .ok (.lcmp, 1) := by decide +kernel
theorem dX4_isPeak_21 : decode cX4_isPeak 21 = .ok (.ifCond .le 19, 3) := by decide +kernel
theorem dX4_isPeak_24 : decode cX4_isPeak 24 = .ok (.lload_n 2, 1) := by decide +kernel
theorem dX4_isPeak_25 : decode cX4_isPeak 25 = .ok (.aload_n 0, 1) := by decide +kernel
theorem dX4_isPeak_26 : decode cX4_isPeak 26 = .ok (.iload_n 1, 1) := by decide +kernel
theorem dX4_isPeak_27 : decode cX4_isPeak 27 = .ok (.iconst 1, 1) := by decide +kernel
theorem dX4_isPeak_28 : decode cX4_isPeak 28 = .ok (.iadd, 1) := by decide +kernel
theorem dX4_isPeak_29 : decode cX4_isPeak 29 = .ok (.invokevirtual 243, 3) := by decide +kernel
theorem dX4_isPeak_32 : decode cX4_isPeak 32 = .ok (.lcmp, 1) := by decide +kernel
theorem dX4_isPeak_33 : decode cX4_isPeak 33 = .ok (.ifCond .le 7, 3) := by decide +kernel
theorem dX4_isPeak_36 : decode cX4_isPeak 36 = .ok (.iconst 1, 1) := by decide +kernel
theorem dX4_isPeak_37 : decode cX4_isPeak 37 = .ok (.goto 4, 3) := by decide +kernel
theorem dX4_isPeak_40 : decode cX4_isPeak 40 = .ok (.iconst 0, 1) := by decide +kernel
theorem dX4_isPeak_41 : decode cX4_isPeak 41 = .ok (.ireturn, 1) := by decide +kernel
theorem dX4_powerAt_0 : decode cX4_powerAt 0 = .ok (.iload_n 1, 1) := by decide +kernel
theorem dX4_powerAt_1 : decode cX4_powerAt 1 = .ok (.ifCond .lt 21, 3) := by decide +kernel
theorem dX4_powerAt_4 : decode cX4_powerAt 4 = .ok (.iload_n 1, 1) := by decide +kernel
theorem dX4_powerAt_5 : decode cX4_powerAt 5 = .ok (.aload_n 0, 1) := by decide +kernel
theorem dX4_powerAt_6 : decode cX4_powerAt 6 = .ok (.getfield 32, 3) := by decide +kernel
theorem dX4_powerAt_9 : decode cX4_powerAt 9 = .ok (.arraylength, 1) := by decide +kernel
theorem dX4_powerAt_10 : decode cX4_powerAt 10 = .ok (.if_icmp .ge 12, 3) := by decide +kernel
theorem dX4_powerAt_13 : decode cX4_powerAt 13 = .ok (.aload_n 0, 1) := by decide +kernel
theorem dX4_powerAt_14 : decode cX4_powerAt 14 = .ok (.getfield 32, 3) := by decide +kernel
theorem dX4_powerAt_17 : decode cX4_powerAt 17 = .ok (.iload_n 1, 1) := by decide +kernel
theorem dX4_powerAt_18 : decode cX4_powerAt 18 = .ok (.laload, 1) := by decide +kernel
theorem dX4_powerAt_19 : decode cX4_powerAt 19 = .ok (.goto 4, 3) := by decide +kernel
theorem dX4_powerAt_22 : decode cX4_powerAt 22 = .ok (.lconst 0, 1) := by decide +kernel
theorem dX4_powerAt_23 : decode cX4_powerAt 23 = .ok (.lreturn, 1) := by decide +kernel
theorem dX4_strongest_0 : decode cX4_strongest 0 = .ok (.aload_n 0, 1) := by decide +kernel
theorem dX4_strongest_1 : decode cX4_strongest 1 = .ok (.invokevirtual 159, 3) := by decide +kernel
theorem dX4_strongest_4 : decode cX4_strongest 4 = .ok (.lstore_n 1, 1) := by decide +kernel
theorem dX4_strongest_5 : decode cX4_strongest 5 = .ok (.lload_n 1, 1) := by decide +kernel
theorem dX4_strongest_6 : decode cX4_strongest 6 = .ok (.lconst 0, 1) := by decide +kernel
theorem dX4_strongest_7 : decode cX4_strongest 7 = .ok (.lcmp, 1) := by decide +kernel
theorem dX4_strongest_8 : decode cX4_strongest 8 = .ok (.ifCond .gt 6, 3) := by decide +kernel
theorem dX4_strongest_11 : decode cX4_strongest 11 = .ok (.bipush (-99), 2) := by decide +kernel
theorem dX4_strongest_13 : decode cX4_strongest 13 = .ok (.ireturn, 1) := by decide +kernel
theorem dX4_strongest_14 : decode cX4_strongest 14 = .ok (.iconst 0, 1) := by decide +kernel
theorem dX4_strongest_15 : decode cX4_strongest 15 = .ok (.istore_n 3, 1) := by decide +kernel
theorem dX4_strongest_16 : decode cX4_strongest 16 = .ok (.iload_n 3, 1) := by decide +kernel
theorem dX4_strongest_17 : decode cX4_strongest 17 = .ok (.aload_n 0, 1) := by decide +kernel
theorem dX4_strongest_18 : decode cX4_strongest 18 = .ok (.getfield 32, 3) := by decide +kernel
theorem dX4_strongest_21 : decode cX4_strongest 21 = .ok (.arraylength, 1) := by decide +kernel
theorem dX4_strongest_22 : decode cX4_strongest 22 = .ok (.if_icmp .ge 24, 3) := by decide +kernel
theorem dX4_strongest_25 : decode cX4_strongest 25 = .ok (.aload_n 0, 1) := by decide +kernel
theorem dX4_strongest_26 : decode cX4_strongest 26 = .ok (.getfield 32, 3) := by decide +kernel
theorem dX4_strongest_29 : decode cX4_strongest 29 = .ok (.iload_n 3, 1) := by decide +kernel
theorem dX4_strongest_30 : decode cX4_strongest 30 = .ok (.laload, 1) := by decide +kernel
theorem dX4_strongest_31 : decode cX4_strongest 31 = .ok (.lload_n 1, 1) := by decide +kernel
theorem dX4_strongest_32 : decode cX4_strongest 32 = .ok (.lcmp, 1) := by decide +kernel
theorem dX4_strongest_33 : decode cX4_strongest 33 = .ok (.ifCond .ne 7, 3) := by decide +kernel
theorem dX4_strongest_36 : decode cX4_strongest 36 = .ok (.iload_n 3, 1) := by decide +kernel
theorem dX4_strongest_37 : decode cX4_strongest 37 = .ok (.iconst 4, 1) := by decide +kernel
theorem dX4_strongest_38 : decode cX4_strongest 38 = .ok (.isub, 1) := by decide +kernel
theorem dX4_strongest_39 : decode cX4_strongest 39 = .ok (.ireturn, 1) := by decide +kernel
theorem dX4_strongest_40 : decode cX4_strongest 40 = .ok (.iinc 3 1, 3) := by decide +kernel
theorem dX4_strongest_43 : decode cX4_strongest 43 = .ok (.goto (-27), 3) := by decide +kernel
theorem dX4_strongest_46 : decode cX4_strongest 46 = .ok (.bipush (-99), 2) := by decide +kernel
theorem dX4_strongest_48 : decode cX4_strongest 48 = .ok (.ireturn, 1) := by decide +kernel
theorem dX4_takeAway_0 : decode cX4_takeAway 0 = .ok (.lload_n 2, 1) := by decide +kernel
theorem dX4_takeAway_1 : decode cX4_takeAway 1 = .ok (.lconst 0, 1) := by decide +kernel
theorem dX4_takeAway_2 : decode cX4_takeAway 2 = .ok (.lcmp, 1) := by decide +kernel
theorem dX4_takeAway_3 : decode cX4_takeAway 3 = .ok (.ifCond .gt 4, 3) := by decide +kernel
theorem dX4_takeAway_6 : decode cX4_takeAway 6 = .ok (.return_, 1) := by decide +kernel
theorem dX4_takeAway_7 : decode cX4_takeAway 7 = .ok (.aload_n 0, 1) := by decide +kernel
theorem dX4_takeAway_8 : decode cX4_takeAway 8 = .ok (.iload_n 1, 1) := by decide +kernel
theorem dX4_takeAway_9 : decode cX4_takeAway 9 = .ok (.invokevirtual 146, 3) := by decide +kernel
theorem dX4_takeAway_12 : decode cX4_takeAway 12 = .ok (.iconst 0, 1) := by decide +kernel
theorem dX4_takeAway_13 : decode cX4_takeAway 13 = .ok (.istore 4, 2) := by decide +kernel
theorem dX4_takeAway_15 : decode cX4_takeAway 15 = .ok (.iload 4, 2) := by decide +kernel
theorem dX4_takeAway_17 : decode cX4_takeAway 17 = .ok (.aload_n 0, 1) := by decide +kernel
theorem dX4_takeAway_18 : decode cX4_takeAway 18 = .ok (.getfield 28, 3) := by decide +kernel
theorem dX4_takeAway_21 : decode cX4_takeAway 21 = .ok (.arraylength, 1) := by decide +kernel
theorem dX4_takeAway_22 : decode cX4_takeAway 22 = .ok (.if_icmp .ge 66, 3) := by decide +kernel
theorem dX4_takeAway_25 : decode cX4_takeAway 25 = .ok (.aload_n 0, 1) := by decide +kernel
theorem dX4_takeAway_26 : decode cX4_takeAway 26 = .ok (.getfield 28, 3) := by decide +kernel
theorem dX4_takeAway_29 : decode cX4_takeAway 29 = .ok (.iload 4, 2) := by decide +kernel
theorem dX4_takeAway_31 : decode cX4_takeAway 31 = .ok (.laload, 1) := by decide +kernel
theorem dX4_takeAway_32 : decode cX4_takeAway 32 = .ok (.lload_n 2, 1) := by decide +kernel
theorem dX4_takeAway_33 : decode cX4_takeAway 33 = .ok (.invokestatic 246, 3) := by decide +kernel
theorem dX4_takeAway_36 : decode cX4_takeAway 36 = .ok (.lstore 5, 2) := by decide +kernel
theorem dX4_takeAway_38 : decode cX4_takeAway 38 = .ok (.aload_n 0, 1) := by decide +kernel
theorem dX4_takeAway_39 : decode cX4_takeAway 39 = .ok (.getfield 11, 3) := by decide +kernel
theorem dX4_takeAway_42 : decode cX4_takeAway 42 = .ok (.astore 7, 2) := by decide +kernel
theorem dX4_takeAway_44 : decode cX4_takeAway 44 = .ok (.aload 7, 2) := by decide +kernel
theorem dX4_takeAway_46 : decode cX4_takeAway 46 = .ok (.arraylength, 1) := by decide +kernel
theorem dX4_takeAway_47 : decode cX4_takeAway 47 = .ok (.istore 8, 2) := by decide +kernel
theorem dX4_takeAway_49 : decode cX4_takeAway 49 = .ok (.iconst 0, 1) := by decide +kernel
theorem dX4_takeAway_50 : decode cX4_takeAway 50 = .ok (.istore 9, 2) := by decide +kernel
theorem dX4_takeAway_52 : decode cX4_takeAway 52 = .ok (.iload 9, 2) := by decide +kernel
theorem dX4_takeAway_54 : decode cX4_takeAway 54 = .ok (.iload 8, 2) := by decide +kernel
theorem dX4_takeAway_56 : decode cX4_takeAway 56 = .ok (.if_icmp .ge 26, 3) := by decide +kernel
theorem dX4_takeAway_59 : decode cX4_takeAway 59 = .ok (.aload 7, 2) := by decide +kernel
theorem dX4_takeAway_61 : decode cX4_takeAway 61 = .ok (.iload 9, 2) := by decide +kernel
theorem dX4_takeAway_63 : decode cX4_takeAway 63 = .ok (.aaload, 1) := by decide +kernel
theorem dX4_takeAway_64 : decode cX4_takeAway 64 = .ok (.astore 10, 2) := by decide +kernel
theorem dX4_takeAway_66 : decode cX4_takeAway 66 = .ok (.aload 10, 2) := by decide +kernel
theorem dX4_takeAway_68 : decode cX4_takeAway 68 = .ok (.iload 4, 2) := by decide +kernel
theorem dX4_takeAway_70 : decode cX4_takeAway 70 = .ok (.iload_n 1, 1) := by decide +kernel
theorem dX4_takeAway_71 : decode cX4_takeAway 71 = .ok (.lload 5, 2) := by decide +kernel
theorem dX4_takeAway_73 : decode cX4_takeAway 73 = .ok (.invokevirtual 249, 3) := by decide +kernel
theorem dX4_takeAway_76 : decode cX4_takeAway 76 = .ok (.iinc 9 1, 3) := by decide +kernel
theorem dX4_takeAway_79 : decode cX4_takeAway 79 = .ok (.goto (-27), 3) := by decide +kernel
theorem dX4_takeAway_82 : decode cX4_takeAway 82 = .ok (.iinc 4 1, 3) := by decide +kernel
theorem dX4_takeAway_85 : decode cX4_takeAway 85 = .ok (.goto (-70), 3) := by decide +kernel
theorem dX4_takeAway_88 : decode cX4_takeAway 88 = .ok (.aload_n 0, 1) := by decide +kernel
theorem dX4_takeAway_89 : decode cX4_takeAway 89 = .ok (.getfield 11, 3) := by decide +kernel
theorem dX4_takeAway_92 : decode cX4_takeAway 92 = .ok (.astore 4, 2) := by decide +kernel
theorem dX4_takeAway_94 : decode cX4_takeAway 94 = .ok (.aload 4, 2) := by decide +kernel
theorem dX4_takeAway_96 : decode cX4_takeAway 96 = .ok (.arraylength, 1) := by decide +kernel
theorem dX4_takeAway_97 : decode cX4_takeAway 97 = .ok (.istore 5, 2) := by decide +kernel
theorem dX4_takeAway_99 : decode cX4_takeAway 99 = .ok (.iconst 0, 1) := by decide +kernel
theorem dX4_takeAway_100 : decode cX4_takeAway 100 = .ok (.istore 6, 2) := by decide +kernel
theorem dX4_takeAway_102 : decode cX4_takeAway 102 = .ok (.iload 6, 2) := by decide +kernel
theorem dX4_takeAway_104 : decode cX4_takeAway 104 = .ok (.iload 5, 2) := by decide +kernel
theorem dX4_takeAway_106 : decode cX4_takeAway 106 = .ok (.if_icmp .ge 21, 3) := by decide +kernel
theorem dX4_takeAway_109 : decode cX4_takeAway 109 = .ok (.aload 4, 2) := by decide +kernel
theorem dX4_takeAway_111 : decode cX4_takeAway 111 = .ok (.iload 6, 2) := by decide +kernel
theorem dX4_takeAway_113 : decode cX4_takeAway 113 = .ok (.aaload, 1) := by decide +kernel
theorem dX4_takeAway_114 : decode cX4_takeAway 114 = .ok (.astore 7, 2) := by decide +kernel
theorem dX4_takeAway_116 : decode cX4_takeAway 116 = .ok (.aload 7, 2) := by decide +kernel
theorem dX4_takeAway_118 : decode cX4_takeAway 118 = .ok (.invokevirtual 252, 3) := by decide +kernel
theorem dX4_takeAway_121 : decode cX4_takeAway 121 = .ok (.iinc 6 1, 3) := by decide +kernel
theorem dX4_takeAway_124 : decode cX4_takeAway 124 = .ok (.goto (-22), 3) := by decide +kernel
theorem dX4_takeAway_127 : decode cX4_takeAway 127 = .ok (.return_, 1) := by decide +kernel
theorem dX4_lowestLiving_0 : decode cX4_lowestLiving 0 = .ok (.aload_n 0, 1) := by decide +kernel
theorem dX4_lowestLiving_1 : decode cX4_lowestLiving 1 = .ok (.getfield 11, 3) := by decide +kernel
theorem dX4_lowestLiving_4 : decode cX4_lowestLiving 4 = .ok (.astore_n 1, 1) := by decide +kernel
theorem dX4_lowestLiving_5 : decode cX4_lowestLiving 5 = .ok (.aload_n 1, 1) := by decide +kernel
theorem dX4_lowestLiving_6 : decode cX4_lowestLiving 6 = .ok (.arraylength, 1) := by decide +kernel
theorem dX4_lowestLiving_7 : decode cX4_lowestLiving 7 = .ok (.istore_n 2, 1) := by decide +kernel
theorem dX4_lowestLiving_8 : decode cX4_lowestLiving 8 = .ok (.iconst 0, 1) := by decide +kernel
theorem dX4_lowestLiving_9 : decode cX4_lowestLiving 9 = .ok (.istore_n 3, 1) := by decide +kernel
theorem dX4_lowestLiving_10 : decode cX4_lowestLiving 10 = .ok (.iload_n 3, 1) := by decide +kernel
theorem dX4_lowestLiving_11 : decode cX4_lowestLiving 11 = .ok (.iload_n 2, 1) := by decide +kernel
theorem dX4_lowestLiving_12 : decode cX4_lowestLiving 12 = .ok (.if_icmp .ge 25, 3) := by decide +kernel
theorem dX4_lowestLiving_15 : decode cX4_lowestLiving 15 = .ok (.aload_n 1, 1) := by decide +kernel
theorem dX4_lowestLiving_16 : decode cX4_lowestLiving 16 = .ok (.iload_n 3, 1) := by decide +kernel
theorem dX4_lowestLiving_17 : decode cX4_lowestLiving 17 = .ok (.aaload, 1) := by decide +kernel
theorem dX4_lowestLiving_18 : decode cX4_lowestLiving 18 = .ok (.astore 4, 2) := by decide +kernel
theorem dX4_lowestLiving_20 : decode cX4_lowestLiving 20 = .ok (.aload 4, 2) := by decide +kernel
theorem dX4_lowestLiving_22 : decode cX4_lowestLiving 22 = .ok (.invokevirtual 76, 3) := by decide +kernel
theorem dX4_lowestLiving_25 : decode cX4_lowestLiving 25 = .ok (.ifCond .eq 6, 3) := by decide +kernel
theorem dX4_lowestLiving_28 : decode cX4_lowestLiving 28 = .ok (.aload 4, 2) := by decide +kernel
theorem dX4_lowestLiving_30 : decode cX4_lowestLiving 30 = .ok (.areturn, 1) := by decide +kernel
theorem dX4_lowestLiving_31 : decode cX4_lowestLiving 31 = .ok (.iinc 3 1, 3) := by decide +kernel
theorem dX4_lowestLiving_34 : decode cX4_lowestLiving 34 = .ok (.goto (-24), 3) := by decide +kernel
theorem dX4_lowestLiving_37 : decode cX4_lowestLiving 37 = .ok (.aconst_null, 1) := by decide +kernel
theorem dX4_lowestLiving_38 : decode cX4_lowestLiving 38 = .ok (.areturn, 1) := by decide +kernel
theorem dX4_holdTo_0 : decode cX4_holdTo 0 = .ok (.aload_n 1, 1) := by decide +kernel
theorem dX4_holdTo_1 : decode cX4_holdTo 1 = .ok (.bipush 64, 2) := by decide +kernel
theorem dX4_holdTo_3 : decode cX4_holdTo 3 = .ok (.iconst 0, 1) := by decide +kernel
theorem dX4_holdTo_4 : decode cX4_holdTo 4 = .ok (.invokevirtual 255, 3) := by decide +kernel
theorem dX4_holdTo_7 : decode cX4_holdTo 7 = .ok (.ifCond .eq 7, 3) := by decide +kernel
theorem dX4_holdTo_10 : decode cX4_holdTo 10 = .ok (.iconst 1, 1) := by decide +kernel
theorem dX4_holdTo_11 : decode cX4_holdTo 11 = .ok (.goto 4, 3) := by decide +kernel
theorem dX4_holdTo_14 : decode cX4_holdTo 14 = .ok (.iconst 0, 1) := by decide +kernel
theorem dX4_holdTo_15 : decode cX4_holdTo 15 = .ok (.istore 5, 2) := by decide +kernel
theorem dX4_holdTo_17 : decode cX4_holdTo 17 = .ok (.aload_n 0, 1) := by decide +kernel
theorem dX4_holdTo_18 : decode cX4_holdTo 18 = .ok (.getfield 11, 3) := by decide +kernel
theorem dX4_holdTo_21 : decode cX4_holdTo 21 = .ok (.astore 6, 2) := by decide +kernel
theorem dX4_holdTo_23 : decode cX4_holdTo 23 = .ok (.aload 6, 2) := by decide +kernel
theorem dX4_holdTo_25 : decode cX4_holdTo 25 = .ok (.arraylength, 1) := by decide +kernel
theorem dX4_holdTo_26 : decode cX4_holdTo 26 = .ok (.istore 7, 2) := by decide +kernel
theorem dX4_holdTo_28 : decode cX4_holdTo 28 = .ok (.iconst 0, 1) := by decide +kernel
theorem dX4_holdTo_29 : decode cX4_holdTo 29 = .ok (.istore 8, 2) := by decide +kernel
theorem dX4_holdTo_31 : decode cX4_holdTo 31 = .ok (.iload 8, 2) := by decide +kernel
theorem dX4_holdTo_33 : decode cX4_holdTo 33 = .ok (.iload 7, 2) := by decide +kernel
theorem dX4_holdTo_35 : decode cX4_holdTo 35 = .ok (.if_icmp .ge 45, 3) := by decide +kernel
theorem dX4_holdTo_38 : decode cX4_holdTo 38 = .ok (.aload 6, 2) := by decide +kernel
theorem dX4_holdTo_40 : decode cX4_holdTo 40 = .ok (.iload 8, 2) := by decide +kernel
theorem dX4_holdTo_42 : decode cX4_holdTo 42 = .ok (.aaload, 1) := by decide +kernel
theorem dX4_holdTo_43 : decode cX4_holdTo 43 = .ok (.astore 9, 2) := by decide +kernel
theorem dX4_holdTo_45 : decode cX4_holdTo 45 = .ok (.aload 9, 2) := by decide +kernel
theorem dX4_holdTo_47 : decode cX4_holdTo 47 = .ok (.aload_n 1, 1) := by decide +kernel
theorem dX4_holdTo_48 : decode cX4_holdTo 48 = .ok (.if_acmp .eq 26, 3) := by decide +kernel
theorem dX4_holdTo_51 : decode cX4_holdTo 51 = .ok (.aload 9, 2) := by decide +kernel
theorem dX4_holdTo_53 : decode cX4_holdTo 53 = .ok (.invokevirtual 76, 3) := by decide +kernel
theorem dX4_holdTo_56 : decode cX4_holdTo 56 = .ok (.ifCond .eq 18, 3) := by decide +kernel
theorem dX4_holdTo_59 : decode cX4_holdTo 59 = .ok (.aload 9, 2) := by decide +kernel
theorem dX4_holdTo_61 : decode cX4_holdTo 61 = .ok (.aload_n 1, 1) := by decide +kernel
theorem dX4_holdTo_62 : decode cX4_holdTo 62 = .ok (.lload_n 2, 1) := by decide +kernel
theorem dX4_holdTo_63 : decode cX4_holdTo 63 = .ok (.iload 4, 2) := by decide +kernel
theorem dX4_holdTo_65 : decode cX4_holdTo 65 = .ok (.invokestatic 259, 3) := by decide +kernel
theorem dX4_holdTo_68 : decode cX4_holdTo 68 = .ok (.ifCond .eq 6, 3) := by decide +kernel
theorem dX4_holdTo_71 : decode cX4_holdTo 71 = .ok (.iinc 5 1, 3) := by decide +kernel
theorem dX4_holdTo_74 : decode cX4_holdTo 74 = .ok (.iinc 8 1, 3) := by decide +kernel
theorem dX4_holdTo_77 : decode cX4_holdTo 77 = .ok (.goto (-46), 3) := by decide +kernel
theorem dX4_holdTo_80 : decode cX4_holdTo 80 = .ok (.iload 5, 2) := by decide +kernel
theorem dX4_holdTo_82 : decode cX4_holdTo 82 = .ok (.ireturn, 1) := by decide +kernel
theorem dX4_fit_0 : decode cX4_fit 0 = .ok (.lload_n 2, 1) := by decide +kernel
theorem dX4_fit_1 : decode cX4_fit 1 = .ok (.lconst 0, 1) := by decide +kernel
theorem dX4_fit_2 : decode cX4_fit 2 = .ok (.lcmp, 1) := by decide +kernel
theorem dX4_fit_3 : decode cX4_fit 3 = .ok (.ifCond .gt 5, 3) := by decide +kernel
theorem dX4_fit_6 : decode cX4_fit 6 = .ok (.iconst 0, 1) := by decide +kernel
theorem dX4_fit_7 : decode cX4_fit 7 = .ok (.ireturn, 1) := by decide +kernel
theorem dX4_fit_8 : decode cX4_fit 8 = .ok (.bipush (-3), 2) := by decide +kernel
theorem dX4_fit_10 : decode cX4_fit 10 = .ok (.istore 5, 2) := by decide +kernel
theorem dX4_fit_12 : decode cX4_fit 12 = .ok (.aload_n 0, 1) := by decide +kernel
theorem dX4_fit_13 : decode cX4_fit 13 = .ok (.aload_n 1, 1) := by decide +kernel
theorem dX4_fit_14 : decode cX4_fit 14 = .ok (.iload 4, 2) := by decide +kernel
theorem dX4_fit_16 : decode cX4_fit 16 = .ok (.iload 5, 2) := by decide +kernel
theorem dX4_fit_18 : decode cX4_fit 18 = .ok (.invokevirtual 128, 3) := by decide +kernel
theorem dX4_fit_21 : decode cX4_fit 21 = .ok (.lstore 6, 2) := by decide +kernel
theorem dX4_fit_23 : decode cX4_fit 23 = .ok (.iload 5, 2) := by decide +kernel
theorem dX4_fit_25 : decode cX4_fit 25 = .ok (.iconst 1, 1) := by decide +kernel
theorem dX4_fit_26 : decode cX4_fit 26 = .ok (.iadd, 1) := by decide +kernel
theorem dX4_fit_27 : decode cX4_fit 27 = .ok (.istore 8, 2) := by decide +kernel
theorem dX4_fit_29 : decode cX4_fit 29 = .ok (.iload 8, 2) := by decide +kernel
theorem dX4_fit_31 : decode cX4_fit 31 = .ok (.iconst 3, 1) := by decide +kernel
theorem dX4_fit_32 : decode cX4_fit 32 = .ok (.if_icmp .gt 36, 3) := by decide +kernel
theorem dX4_fit_35 : decode cX4_fit 35 = .ok (.aload_n 0, 1) := by decide +kernel
theorem dX4_fit_36 : decode cX4_fit 36 = .ok (.aload_n 1, 1) := by decide +kernel
theorem dX4_fit_37 : decode cX4_fit 37 = .ok (.iload 4, 2) := by decide +kernel
theorem dX4_fit_39 : decode cX4_fit 39 = .ok (.iload 8, 2) := by decide +kernel
theorem dX4_fit_41 : decode cX4_fit 41 = .ok (.invokevirtual 128, 3) := by decide +kernel
theorem dX4_fit_44 : decode cX4_fit 44 = .ok (.lstore 9, 2) := by decide +kernel
theorem dX4_fit_46 : decode cX4_fit 46 = .ok (.lload 9, 2) := by decide +kernel
theorem dX4_fit_48 : decode cX4_fit 48 = .ok (.lload 6, 2) := by decide +kernel
theorem dX4_fit_50 : decode cX4_fit 50 = .ok (.lcmp, 1) := by decide +kernel
theorem dX4_fit_51 : decode cX4_fit 51 = .ok (.ifCond .le 11, 3) := by decide +kernel
theorem dX4_fit_54 : decode cX4_fit 54 = .ok (.lload 9, 2) := by decide +kernel
theorem dX4_fit_56 : decode cX4_fit 56 = .ok (.lstore 6, 2) := by decide +kernel
theorem dX4_fit_58 : decode cX4_fit 58 = .ok (.iload 8, 2) := by decide +kernel
theorem dX4_fit_60 : decode cX4_fit 60 = .ok (.istore 5, 2) := by decide +kernel
theorem dX4_fit_62 : decode cX4_fit 62 = .ok (.iinc 8 1, 3) := by decide +kernel
theorem dX4_fit_65 : decode cX4_fit 65 = .ok (.goto (-36), 3) := by decide +kernel
theorem dX4_fit_68 : decode cX4_fit 68 = .ok (.ldc2_w 263, 3) := by decide +kernel
theorem dX4_fit_71 : decode cX4_fit 71 = .ok (.lload 6, 2) := by decide +kernel
theorem dX4_fit_73 : decode cX4_fit 73 = .ok (.lmul, 1) := by decide +kernel
theorem dX4_fit_74 : decode cX4_fit 74 = .ok (.lload_n 2, 1) := by decide +kernel
theorem dX4_fit_75 : decode cX4_fit 75 = .ok (.invokestatic 246, 3) := by decide +kernel
theorem dX4_fit_78 : decode cX4_fit 78 = .ok (.lstore 8, 2) := by decide +kernel
theorem dX4_fit_80 : decode cX4_fit 80 = .ok (.aload_n 0, 1) := by decide +kernel
theorem dX4_fit_81 : decode cX4_fit 81 = .ok (.ldc2_w 265, 3) := by decide +kernel
theorem dX4_fit_84 : decode cX4_fit 84 = .ok (.ldc2_w 267, 3) := by decide +kernel
theorem dX4_fit_87 : decode cX4_fit 87 = .ok (.lload 8, 2) := by decide +kernel
theorem dX4_fit_89 : decode cX4_fit 89 = .ok (.invokestatic 269, 3) := by decide +kernel
theorem dX4_fit_92 : decode cX4_fit 92 = .ok (.invokestatic 239, 3) := by decide +kernel
theorem dX4_fit_95 : decode cX4_fit 95 = .ok (.l2i, 1) := by decide +kernel
theorem dX4_fit_96 : decode cX4_fit 96 = .ok (.iload 5, 2) := by decide +kernel
theorem dX4_fit_98 : decode cX4_fit 98 = .ok (.invokevirtual 255, 3) := by decide +kernel
theorem dX4_fit_101 : decode cX4_fit 101 = .ok (.ireturn, 1) := by decide +kernel
theorem dX5_init_0 : decode cX5_init 0 = .ok (.aload_n 0, 1) := by decide +kernel
theorem dX5_init_1 : decode cX5_init 1 = .ok (.invokespecial 1, 3) := by decide +kernel
theorem dX5_init_4 : decode cX5_init 4 = .ok (.aload_n 0, 1) := by decide +kernel
theorem dX5_init_5 : decode cX5_init 5 = .ok (.bipush 8, 2) := by decide +kernel
theorem dX5_init_7 : decode cX5_init 7 = .ok (.newarray .int, 2) := by decide +kernel
theorem dX5_init_9 : decode cX5_init 9 = .ok (.putfield 7, 3) := by decide +kernel
theorem dX5_init_12 : decode cX5_init 12 = .ok (.aload_n 0, 1) := by decide +kernel
theorem dX5_init_13 : decode cX5_init 13 = .ok (.bipush 8, 2) := by decide +kernel
theorem dX5_init_15 : decode cX5_init 15 = .ok (.newarray .int, 2) := by decide +kernel
theorem dX5_init_17 : decode cX5_init 17 = .ok (.putfield 13, 3) := by decide +kernel
theorem dX5_init_20 : decode cX5_init 20 = .ok (.aload_n 0, 1) := by decide +kernel
theorem dX5_init_21 : decode cX5_init 21 = .ok (.bipush 8, 2) := by decide +kernel
theorem dX5_init_23 : decode cX5_init 23 = .ok (.newarray .int, 2) := by decide +kernel
theorem dX5_init_25 : decode cX5_init 25 = .ok (.putfield 16, 3) := by decide +kernel
theorem dX5_init_28 : decode cX5_init 28 = .ok (.aload_n 0, 1) := by decide +kernel
theorem dX5_init_29 : decode cX5_init 29 = .ok (.bipush 8, 2) := by decide +kernel
theorem dX5_init_31 : decode cX5_init 31 = .ok (.newarray .int, 2) := by decide +kernel
theorem dX5_init_33 : decode cX5_init 33 = .ok (.putfield 19, 3) := by decide +kernel
theorem dX5_init_36 : decode cX5_init 36 = .ok (.aload_n 0, 1) := by decide +kernel
theorem dX5_init_37 : decode cX5_init 37 = .ok (.bipush 8, 2) := by decide +kernel
theorem dX5_init_39 : decode cX5_init 39 = .ok (.newarray .boolean, 2) := by decide +kernel
theorem dX5_init_41 : decode cX5_init 41 = .ok (.putfield 22, 3) := by decide +kernel
theorem dX5_init_44 : decode cX5_init 44 = .ok (.aload_n 0, 1) := by decide +kernel
theorem dX5_init_45 : decode cX5_init 45 = .ok (.bipush 8, 2) := by decide +kernel
theorem dX5_init_47 : decode cX5_init 47 = .ok (.newarray .int, 2) := by decide +kernel
theorem dX5_init_49 : decode cX5_init 49 = .ok (.putfield 26, 3) := by decide +kernel
theorem dX5_init_52 : decode cX5_init 52 = .ok (.aload_n 0, 1) := by decide +kernel
theorem dX5_init_53 : decode cX5_init 53 = .ok (.bipush 8, 2) := by decide +kernel
theorem dX5_init_55 : decode cX5_init 55 = .ok (.newarray .int, 2) := by decide +kernel
theorem dX5_init_57 : decode cX5_init 57 = .ok (.putfield 29, 3) := by decide +kernel
theorem dX5_init_60 : decode cX5_init 60 = .ok (.aload_n 0, 1) := by decide +kernel
theorem dX5_init_61 : decode cX5_init 61 = .ok (.iconst 4, 1) := by decide +kernel
theorem dX5_init_62 : decode cX5_init 62 = .ok (.newarray .int, 2) := by decide +kernel
theorem dX5_init_64 : decode cX5_init 64 = .ok (.putfield 32, 3) := by decide +kernel
theorem dX5_init_67 : decode cX5_init 67 = .ok (.aload_n 0, 1) := by decide +kernel
theorem dX5_init_68 : decode cX5_init 68 = .ok (.iconst 4, 1) := by decide +kernel
theorem dX5_init_69 : decode cX5_init 69 = .ok (.newarray .int, 2) := by decide +kernel
theorem dX5_init_71 : decode cX5_init 71 = .ok (.putfield 35, 3) := by decide +kernel
theorem dX5_init_74 : decode cX5_init 74 = .ok (.aload_n 0, 1) := by decide +kernel
theorem dX5_init_75 : decode cX5_init 75 = .ok (.iconst 4, 1) := by decide +kernel
theorem dX5_init_76 : decode cX5_init 76 = .ok (.newarray .int, 2) := by decide +kernel
theorem dX5_init_78 : decode cX5_init 78 = .ok (.putfield 38, 3) := by decide +kernel
theorem dX5_init_81 : decode cX5_init 81 = .ok (.aload_n 0, 1) := by decide +kernel
theorem dX5_init_82 : decode cX5_init 82 = .ok (.sipush 512, 3) := by decide +kernel
theorem dX5_init_85 : decode cX5_init 85 = .ok (.newarray .int, 2) := by decide +kernel
theorem dX5_init_87 : decode cX5_init 87 = .ok (.putfield 41, 3) := by decide +kernel
theorem dX5_init_90 : decode cX5_init 90 = .ok (.aload_n 0, 1) := by decide +kernel
theorem dX5_init_91 : decode cX5_init 91 = .ok (.sipush 512, 3) := by decide +kernel
theorem dX5_init_94 : decode cX5_init 94 = .ok (.newarray .int, 2) := by decide +kernel
theorem dX5_init_96 : decode cX5_init 96 = .ok (.putfield 44, 3) := by decide +kernel
theorem dX5_init_99 : decode cX5_init 99 = .ok (.aload_n 0, 1) := by decide +kernel
theorem dX5_init_100 : decode cX5_init 100 = .ok (.bipush 32, 2) := by decide +kernel
theorem dX5_init_102 : decode cX5_init 102 = .ok (.newarray .int, 2) := by decide +kernel
theorem dX5_init_104 : decode cX5_init 104 = .ok (.putfield 47, 3) := by decide +kernel
theorem dX5_init_107 : decode cX5_init 107 = .ok (.aload_n 0, 1) := by decide +kernel
theorem dX5_init_108 : decode cX5_init 108 = .ok (.bipush 9, 2) := by decide +kernel
theorem dX5_init_110 : decode cX5_init 110 = .ok (.newarray .long, 2) := by decide +kernel
theorem dX5_init_112 : decode cX5_init 112 = .ok (.putfield 50, 3) := by decide +kernel
theorem dX5_init_115 : decode cX5_init 115 = .ok (.aload_n 0, 1) := by decide +kernel
theorem dX5_init_116 : decode cX5_init 116 = .ok (.iconst 1, 1) := by decide +kernel
theorem dX5_init_117 : decode cX5_init 117 = .ok (.putfield 54, 3) := by decide +kernel
theorem dX5_init_120 : decode cX5_init 120 = .ok (.return_, 1) := by decide +kernel
theorem dX5_thrown_0 : decode cX5_thrown 0 = .ok (.aload_n 0, 1) := by decide +kernel
theorem dX5_thrown_1 : decode cX5_thrown 1 = .ok (.getfield 58, 3) := by decide +kernel
theorem dX5_thrown_4 : decode cX5_thrown 4 = .ok (.ireturn, 1) := by decide +kernel
theorem dX5_goes_0 : decode cX5_goes 0 = .ok (.aload_n 0, 1) := by decide +kernel
theorem dX5_goes_1 : decode cX5_goes 1 = .ok (.iload_n 1, 1) := by decide +kernel
theorem dX5_goes_2 : decode cX5_goes 2 = .ok (.putfield 58, 3) := by decide +kernel
theorem dX5_goes_5 : decode cX5_goes 5 = .ok (.iload_n 1, 1) := by decide +kernel
theorem dX5_goes_6 : decode cX5_goes 6 = .ok (.ifCond .ne 7, 3) := by decide +kernel
theorem dX5_goes_9 : decode cX5_goes 9 = .ok (.iconst 1, 1) := by decide +kernel
theorem dX5_goes_10 : decode cX5_goes 10 = .ok (.goto 4, 3) := by decide +kernel
theorem dX5_goes_13 : decode cX5_goes 13 = .ok (.iconst 0, 1) := by decide +kernel
theorem dX5_goes_14 : decode cX5_goes 14 = .ok (.ireturn, 1) := by decide +kernel
theorem dX5_isIn_0 : decode cX5_isIn 0 = .ok (.iload_n 0, 1) := by decide +kernel
theorem dX5_isIn_1 : decode cX5_isIn 1 = .ok (.iload_n 1, 1) := by decide +kernel
theorem dX5_isIn_2 : decode cX5_isIn 2 = .ok (.if_icmp .lt 12, 3) := by decide +kernel
theorem dX5_isIn_5 : decode cX5_isIn 5 = .ok (.iload_n 0, 1) := by decide +kernel
theorem dX5_isIn_6 : decode cX5_isIn 6 = .ok (.iload_n 2, 1) := by decide +kernel
theorem dX5_isIn_7 : decode cX5_isIn 7 = .ok (.if_icmp .gt 7, 3) := by decide +kernel
theorem dX5_isIn_10 : decode cX5_isIn 10 = .ok (.iconst 1, 1) := by decide +kernel
theorem dX5_isIn_11 : decode cX5_isIn 11 = .ok (.goto 4, 3) := by decide +kernel
theorem dX5_isIn_14 : decode cX5_isIn 14 = .ok (.iconst 0, 1) := by decide +kernel
theorem dX5_isIn_15 : decode cX5_isIn 15 = .ok (.ireturn, 1) := by decide +kernel
theorem dX5_isElement_0 : decode cX5_isElement 0 = .ok (.iload_n 1, 1) := by decide +kernel
theorem dX5_isElement_1 : decode cX5_isElement 1 = .ok (.iconst 0, 1) := by decide +kernel
theorem dX5_isElement_2 : decode cX5_isElement 2 = .ok (.aload_n 0, 1) := by decide +kernel
theorem dX5_isElement_3 : decode cX5_isElement 3 = .ok (.getfield 61, 3) := by decide +kernel
theorem dX5_isElement_6 : decode cX5_isElement 6 = .ok (.iconst 1, 1) := by decide +kernel
theorem dX5_isElement_7 : decode cX5_isElement 7 = .ok (.isub, 1) := by decide +kernel
theorem dX5_isElement_8 : decode cX5_isElement 8 = .ok (.invokestatic 64, 3) := by decide +kernel
theorem dX5_isElement_11 : decode cX5_isElement 11 = .ok (.ireturn, 1) := by decide +kernel
theorem dX5_isBearing_0 : decode cX5_isBearing 0 = .ok (.iload_n 0, 1) := by decide +kernel
theorem dX5_isBearing_1 : decode cX5_isBearing 1 = .ok (.bipush (-4), 2) := by decide +kernel
theorem dX5_isBearing_3 : decode cX5_isBearing 3 = .ok (.iconst 4, 1) := by decide +kernel
theorem dX5_isBearing_4 : decode cX5_isBearing 4 = .ok (.invokestatic 64, 3) := by decide +kernel
theorem dX5_isBearing_7 : decode cX5_isBearing 7 = .ok (.ireturn, 1) := by decide +kernel
theorem dX5_down_0 : decode cX5_down 0 = .ok (.lload_n 0, 1) := by decide +kernel
theorem dX5_down_1 : decode cX5_down 1 = .ok (.lload_n 2, 1) := by decide +kernel
theorem dX5_down_2 : decode cX5_down 2 = .ok (.ldiv, 1) := by decide +kernel
theorem dX5_down_3 : decode cX5_down 3 = .ok (.lstore 4, 2) := by decide +kernel
theorem dX5_down_5 : decode cX5_down 5 = .ok (.lload_n 0, 1) := by decide +kernel
theorem dX5_down_6 : decode cX5_down 6 = .ok (.lconst 0, 1) := by decide +kernel
theorem dX5_down_7 : decode cX5_down 7 = .ok (.lcmp, 1) := by decide +kernel
theorem dX5_down_8 : decode cX5_down 8 = .ok (.ifCond .ge 19, 3) := by decide +kernel
theorem dX5_down_11 : decode cX5_down 11 = .ok (.lload 4, 2) := by decide +kernel
theorem dX5_down_13 : decode cX5_down 13 = .ok (.lload_n 2, 1) := by decide +kernel
theorem dX5_down_14 : decode cX5_down 14 = .ok (.lmul, 1) := by decide +kernel
theorem dX5_down_15 : decode cX5_down 15 = .ok (.lload_n 0, 1) := by decide +kernel
theorem dX5_down_16 : decode cX5_down 16 = .ok (.lcmp, 1) := by decide +kernel
theorem dX5_down_17 : decode cX5_down 17 = .ok (.ifCond .eq 10, 3) := by decide +kernel
theorem dX5_down_20 : decode cX5_down 20 = .ok (.lload 4, 2) := by decide +kernel
theorem dX5_down_22 : decode cX5_down 22 = .ok (.lconst 1, 1) := by decide +kernel
theorem dX5_down_23 : decode cX5_down 23 = .ok (.lsub, 1) := by decide +kernel
theorem dX5_down_24 : decode cX5_down 24 = .ok (.goto 5, 3) := by decide +kernel
theorem dX5_down_27 : decode cX5_down 27 = .ok (.lload 4, 2) := by decide +kernel
theorem dX5_down_29 : decode cX5_down 29 = .ok (.lreturn, 1) := by decide +kernel
theorem dX5_delay_0 : decode cX5_delay 0 = .ok (.aload_n 0, 1) := by decide +kernel
theorem dX5_delay_1 : decode cX5_delay 1 = .ok (.getfield 7, 3) := by decide +kernel
theorem dX5_delay_4 : decode cX5_delay 4 = .ok (.iload_n 1, 1) := by decide +kernel
theorem dX5_delay_5 : decode cX5_delay 5 = .ok (.iaload, 1) := by decide +kernel
theorem dX5_delay_6 : decode cX5_delay 6 = .ok (.iload_n 2, 1) := by decide +kernel
theorem dX5_delay_7 : decode cX5_delay 7 = .ok (.imul, 1) := by decide +kernel
theorem dX5_delay_8 : decode cX5_delay 8 = .ok (.i2l, 1) := by decide +kernel
theorem dX5_delay_9 : decode cX5_delay 9 = .ok (.ldc2_w 68, 3) := by decide +kernel
theorem dX5_delay_12 : decode cX5_delay 12 = .ok (.invokestatic 70, 3) := by decide +kernel
theorem dX5_delay_15 : decode cX5_delay 15 = .ok (.l2i, 1) := by decide +kernel
theorem dX5_delay_16 : decode cX5_delay 16 = .ok (.ireturn, 1) := by decide +kernel
theorem dX5_element_0 : decode cX5_element 0 = .ok (.iload_n 1, 1) := by decide +kernel
theorem dX5_element_1 : decode cX5_element 1 = .ok (.iconst 0, 1) := by decide +kernel
theorem dX5_element_2 : decode cX5_element 2 = .ok (.bipush 12, 2) := by decide +kernel
theorem dX5_element_4 : decode cX5_element 4 = .ok (.invokestatic 64, 3) := by decide +kernel
theorem dX5_element_7 : decode cX5_element 7 = .ok (.ifCond .eq 28, 3) := by decide +kernel
theorem dX5_element_10 : decode cX5_element 10 = .ok (.iload_n 2, 1) := by decide +kernel
theorem dX5_element_11 : decode cX5_element 11 = .ok (.bipush 32, 2) := by decide +kernel
theorem dX5_element_13 : decode cX5_element 13 = .ok (.bipush 96, 2) := by decide +kernel
theorem dX5_element_15 : decode cX5_element 15 = .ok (.invokestatic 64, 3) := by decide +kernel
theorem dX5_element_18 : decode cX5_element 18 = .ok (.ifCond .eq 17, 3) := by decide +kernel
theorem dX5_element_21 : decode cX5_element 21 = .ok (.iload_n 3, 1) := by decide +kernel
theorem dX5_element_22 : decode cX5_element 22 = .ok (.bipush (-3), 2) := by decide +kernel
theorem dX5_element_24 : decode cX5_element 24 = .ok (.iconst 3, 1) := by decide +kernel
theorem dX5_element_25 : decode cX5_element 25 = .ok (.invokestatic 64, 3) := by decide +kernel
theorem dX5_element_28 : decode cX5_element 28 = .ok (.ifCond .eq 7, 3) := by decide +kernel
theorem dX5_element_31 : decode cX5_element 31 = .ok (.iconst 1, 1) := by decide +kernel
theorem dX5_element_32 : decode cX5_element 32 = .ok (.goto 4, 3) := by decide +kernel
theorem dX5_element_35 : decode cX5_element 35 = .ok (.iconst 0, 1) := by decide +kernel
theorem dX5_element_36 : decode cX5_element 36 = .ok (.istore 4, 2) := by decide +kernel
theorem dX5_element_38 : decode cX5_element 38 = .ok (.aload_n 0, 1) := by decide +kernel
theorem dX5_element_39 : decode cX5_element 39 = .ok (.iload 4, 2) := by decide +kernel
theorem dX5_element_41 : decode cX5_element 41 = .ok (.ifCond .ne 7, 3) := by decide +kernel
theorem dX5_element_44 : decode cX5_element 44 = .ok (.iconst 1, 1) := by decide +kernel
theorem dX5_element_45 : decode cX5_element 45 = .ok (.goto 17, 3) := by decide +kernel
theorem dX5_element_48 : decode cX5_element 48 = .ok (.aload_n 0, 1) := by decide +kernel
theorem dX5_element_49 : decode cX5_element 49 = .ok (.getfield 61, 3) := by decide +kernel
theorem dX5_element_52 : decode cX5_element 52 = .ok (.bipush 8, 2) := by decide +kernel
theorem dX5_element_54 : decode cX5_element 54 = .ok (.if_icmp .ne 7, 3) := by decide +kernel
theorem dX5_element_57 : decode cX5_element 57 = .ok (.iconst 2, 1) := by decide +kernel
theorem dX5_element_58 : decode cX5_element 58 = .ok (.goto 4, 3) := by decide +kernel
theorem dX5_element_61 : decode cX5_element 61 = .ok (.iconst 0, 1) := by decide +kernel
theorem dX5_element_62 : decode cX5_element 62 = .ok (.invokevirtual 74, 3) := by decide +kernel
theorem dX5_element_65 : decode cX5_element 65 = .ok (.ifCond .ne 5, 3) := by decide +kernel
theorem dX5_element_68 : decode cX5_element 68 = .ok (.iconst 0, 1) := by decide +kernel
theorem dX5_element_69 : decode cX5_element 69 = .ok (.ireturn, 1) := by decide +kernel
theorem dX5_element_70 : decode cX5_element 70 = .ok (.aload_n 0, 1) := by decide +kernel
theorem dX5_element_71 : decode cX5_element 71 = .ok (.getfield 7, 3) := by decide +kernel
theorem dX5_element_74 : decode cX5_element 74 = .ok (.aload_n 0, 1) := by decide +kernel
theorem dX5_element_75 : decode cX5_element 75 = .ok (.getfield 61, 3) := by decide +kernel
theorem dX5_element_78 : decode cX5_element 78 = .ok (.iload_n 1, 1) := by decide +kernel
theorem dX5_element_79 : decode cX5_element 79 = .ok (.iastore, 1) := by decide +kernel
theorem dX5_element_80 : decode cX5_element 80 = .ok (.aload_n 0, 1) := by decide +kernel
theorem dX5_element_81 : decode cX5_element 81 = .ok (.getfield 13, 3) := by decide +kernel
theorem dX5_element_84 : decode cX5_element 84 = .ok (.aload_n 0, 1) := by decide +kernel
theorem dX5_element_85 : decode cX5_element 85 = .ok (.getfield 61, 3) := by decide +kernel
theorem dX5_element_88 : decode cX5_element 88 = .ok (.iload_n 2, 1) := by decide +kernel
theorem dX5_element_89 : decode cX5_element 89 = .ok (.iastore, 1) := by decide +kernel
theorem dX5_element_90 : decode cX5_element 90 = .ok (.aload_n 0, 1) := by decide +kernel
theorem dX5_element_91 : decode cX5_element 91 = .ok (.getfield 16, 3) := by decide +kernel
theorem dX5_element_94 : decode cX5_element 94 = .ok (.aload_n 0, 1) := by decide +kernel
theorem dX5_element_95 : decode cX5_element 95 = .ok (.getfield 61, 3) := by decide +kernel
theorem dX5_element_98 : decode cX5_element 98 = .ok (.iload_n 3, 1) := by decide +kernel
theorem dX5_element_99 : decode cX5_element 99 = .ok (.iastore, 1) := by decide +kernel
theorem dX5_element_100 : decode cX5_element 100 = .ok (.aload_n 0, 1) := by decide +kernel
theorem dX5_element_101 : decode cX5_element 101 = .ok (.getfield 19, 3) := by decide +kernel
theorem dX5_element_104 : decode cX5_element 104 = .ok (.aload_n 0, 1) := by decide +kernel
theorem dX5_element_105 : decode cX5_element 105 = .ok (.getfield 61, 3) := by decide +kernel
theorem dX5_element_108 : decode cX5_element 108 = .ok (.aload_n 0, 1) := by decide +kernel
theorem dX5_element_109 : decode cX5_element 109 = .ok (.getfield 78, 3) := by decide +kernel
theorem dX5_element_112 : decode cX5_element 112 = .ok (.iastore, 1) := by decide +kernel
theorem dX5_element_113 : decode cX5_element 113 = .ok (.aload_n 0, 1) := by decide +kernel
theorem dX5_element_114 : decode cX5_element 114 = .ok (.getfield 22, 3) := by decide +kernel
theorem dX5_element_117 : decode cX5_element 117 = .ok (.aload_n 0, 1) := by decide +kernel
theorem dX5_element_118 : decode cX5_element 118 = .ok (.getfield 61, 3) := by decide +kernel
theorem dX5_element_121 : decode cX5_element 121 = .ok (.iconst 1, 1) := by decide +kernel
theorem dX5_element_122 : decode cX5_element 122 = .ok (.bastore, 1) := by decide +kernel
theorem dX5_element_123 : decode cX5_element 123 = .ok (.aload_n 0, 1) := by decide +kernel
theorem dX5_element_124 : decode cX5_element 124 = .ok (.getfield 26, 3) := by decide +kernel
theorem dX5_element_127 : decode cX5_element 127 = .ok (.aload_n 0, 1) := by decide +kernel
theorem dX5_element_128 : decode cX5_element 128 = .ok (.getfield 61, 3) := by decide +kernel
theorem dX5_element_131 : decode cX5_element 131 = .ok (.bipush 64, 2) := by decide +kernel
theorem dX5_element_133 : decode cX5_element 133 = .ok (.iastore, 1) := by decide +kernel
theorem dX5_element_134 : decode cX5_element 134 = .ok (.aload_n 0, 1) := by decide +kernel
theorem dX5_element_135 : decode cX5_element 135 = .ok (.getfield 29, 3) := by decide +kernel
theorem dX5_element_138 : decode cX5_element 138 = .ok (.aload_n 0, 1) := by decide +kernel
theorem dX5_element_139 : decode cX5_element 139 = .ok (.getfield 61, 3) := by decide +kernel
theorem dX5_element_142 : decode cX5_element 142 = .ok (.iconst 0, 1) := by decide +kernel
theorem dX5_element_143 : decode cX5_element 143 = .ok (.iastore, 1) := by decide +kernel
theorem dX5_element_144 : decode cX5_element 144 = .ok (.aload_n 0, 1) := by decide +kernel
theorem dX5_element_145 : decode cX5_element 145 = .ok (.dup, 1) := by decide +kernel
theorem dX5_element_146 : decode cX5_element 146 = .ok (.getfield 61, 3) := by decide +kernel
theorem dX5_element_149 : decode cX5_element 149 = .ok (.iconst 1, 1) := by decide +kernel
theorem dX5_element_150 : decode cX5_element 150 = .ok (.iadd, 1) := by decide +kernel
theorem dX5_element_151 : decode cX5_element 151 = .ok (.putfield 61, 3) := by decide +kernel
theorem dX5_element_154 : decode cX5_element 154 = .ok (.aload_n 0, 1) := by decide +kernel
theorem dX5_element_155 : decode cX5_element 155 = .ok (.getfield 61, 3) := by decide +kernel
theorem dX5_element_158 : decode cX5_element 158 = .ok (.iconst 1, 1) := by decide +kernel
theorem dX5_element_159 : decode cX5_element 159 = .ok (.isub, 1) := by decide +kernel
theorem dX5_element_160 : decode cX5_element 160 = .ok (.ireturn, 1) := by decide +kernel
theorem dX5_alive_0 : decode cX5_alive 0 = .ok (.aload_n 0, 1) := by decide +kernel
theorem dX5_alive_1 : decode cX5_alive 1 = .ok (.aload_n 0, 1) := by decide +kernel
theorem dX5_alive_2 : decode cX5_alive 2 = .ok (.iload_n 1, 1) := by decide +kernel
theorem dX5_alive_3 : decode cX5_alive 3 = .ok (.invokevirtual 81, 3) := by decide +kernel
theorem dX5_alive_6 : decode cX5_alive 6 = .ok (.ifCond .eq 7, 3) := by decide +kernel
theorem dX5_alive_9 : decode cX5_alive 9 = .ok (.iconst 0, 1) := by decide +kernel
theorem dX5_alive_10 : decode cX5_alive 10 = .ok (.goto 4, 3) := by decide +kernel
theorem dX5_alive_13 : decode cX5_alive 13 = .ok (.iconst 1, 1) := by decide +kernel
theorem dX5_alive_14 : decode cX5_alive 14 = .ok (.invokevirtual 74, 3) := by decide +kernel
theorem dX5_alive_17 : decode cX5_alive 17 = .ok (.ifCond .ne 5, 3) := by decide +kernel
theorem dX5_alive_20 : decode cX5_alive 20 = .ok (.iconst 0, 1) := by decide +kernel
theorem dX5_alive_21 : decode cX5_alive 21 = .ok (.ireturn, 1) := by decide +kernel
theorem dX5_alive_22 : decode cX5_alive 22 = .ok (.aload_n 0, 1) := by decide +kernel
theorem dX5_alive_23 : decode cX5_alive 23 = .ok (.getfield 22, 3) := by decide +kernel
theorem dX5_alive_26 : decode cX5_alive 26 = .ok (.iload_n 1, 1) := by decide +kernel
theorem dX5_alive_27 : decode cX5_alive 27 = .ok (.baload, 1) := by decide +kernel
theorem dX5_alive_28 : decode cX5_alive 28 = .ok (.istore_n 3, 1) := by decide +kernel
theorem dX5_alive_29 : decode cX5_alive 29 = .ok (.aload_n 0, 1) := by decide +kernel
theorem dX5_alive_30 : decode cX5_alive 30 = .ok (.getfield 22, 3) := by decide +kernel
theorem dX5_alive_33 : decode cX5_alive 33 = .ok (.iload_n 1, 1) := by decide +kernel
theorem dX5_alive_34 : decode cX5_alive 34 = .ok (.iload_n 2, 1) := by decide +kernel
theorem dX5_alive_35 : decode cX5_alive 35 = .ok (.bastore, 1) := by decide +kernel
theorem dX5_alive_36 : decode cX5_alive 36 = .ok (.iload_n 3, 1) := by decide +kernel
theorem dX5_alive_37 : decode cX5_alive 37 = .ok (.ireturn, 1) := by decide +kernel
theorem dX5_source_0 : decode cX5_source 0 = .ok (.iload_n 2, 1) := by decide +kernel
theorem dX5_source_1 : decode cX5_source 1 = .ok (.iconst 1, 1) := by decide +kernel
theorem dX5_source_2 : decode cX5_source 2 = .ok (.bipush 100, 2) := by decide +kernel
theorem dX5_source_4 : decode cX5_source 4 = .ok (.invokestatic 64, 3) := by decide +kernel
theorem dX5_source_7 : decode cX5_source 7 = .ok (.ifCond .eq 17, 3) := by decide +kernel
theorem dX5_source_10 : decode cX5_source 10 = .ok (.iload_n 3, 1) := by decide +kernel
theorem dX5_source_11 : decode cX5_source 11 = .ok (.iconst 2, 1) := by decide +kernel
theorem dX5_source_12 : decode cX5_source 12 = .ok (.bipush 16, 2) := by decide +kernel
theorem dX5_source_14 : decode cX5_source 14 = .ok (.invokestatic 64, 3) := by decide +kernel
theorem dX5_source_17 : decode cX5_source 17 = .ok (.ifCond .eq 7, 3) := by decide +kernel
theorem dX5_source_20 : decode cX5_source 20 = .ok (.iconst 1, 1) := by decide +kernel
theorem dX5_source_21 : decode cX5_source 21 = .ok (.goto 4, 3) := by decide +kernel
theorem dX5_source_24 : decode cX5_source 24 = .ok (.iconst 0, 1) := by decide +kernel
theorem dX5_source_25 : decode cX5_source 25 = .ok (.istore 4, 2) := by decide +kernel
theorem dX5_source_27 : decode cX5_source 27 = .ok (.aload_n 0, 1) := by decide +kernel
theorem dX5_source_28 : decode cX5_source 28 = .ok (.iload_n 1, 1) := by decide +kernel
theorem dX5_source_29 : decode cX5_source 29 = .ok (.invokestatic 84, 3) := by decide +kernel
theorem dX5_source_32 : decode cX5_source 32 = .ok (.ifCond .ne 7, 3) := by decide +kernel
theorem dX5_source_35 : decode cX5_source 35 = .ok (.iconst 1, 1) := by decide +kernel
theorem dX5_source_36 : decode cX5_source 36 = .ok (.goto 25, 3) := by decide +kernel
theorem dX5_source_39 : decode cX5_source 39 = .ok (.iload 4, 2) := by decide +kernel
theorem dX5_source_41 : decode cX5_source 41 = .ok (.ifCond .ne 7, 3) := by decide +kernel
theorem dX5_source_44 : decode cX5_source 44 = .ok (.iconst 2, 1) := by decide +kernel
theorem dX5_source_45 : decode cX5_source 45 = .ok (.goto 16, 3) := by decide +kernel
theorem dX5_source_48 : decode cX5_source 48 = .ok (.aload_n 0, 1) := by decide +kernel
theorem dX5_source_49 : decode cX5_source 49 = .ok (.getfield 87, 3) := by decide +kernel
theorem dX5_source_52 : decode cX5_source 52 = .ok (.iconst 4, 1) := by decide +kernel
theorem dX5_source_53 : decode cX5_source 53 = .ok (.if_icmp .ne 7, 3) := by decide +kernel
theorem dX5_source_56 : decode cX5_source 56 = .ok (.iconst 3, 1) := by decide +kernel
theorem dX5_source_57 : decode cX5_source 57 = .ok (.goto 4, 3) := by decide +kernel
theorem dX5_source_60 : decode cX5_source 60 = .ok (.iconst 0, 1) := by decide +kernel
theorem dX5_source_61 : decode cX5_source 61 = .ok (.invokevirtual 74, 3) := by decide +kernel
theorem dX5_source_64 : decode cX5_source 64 = .ok (.ifCond .ne 5, 3) := by decide +kernel
theorem dX5_source_67 : decode cX5_source 67 = .ok (.iconst 0, 1) := by decide +kernel
theorem dX5_source_68 : decode cX5_source 68 = .ok (.ireturn, 1) := by decide +kernel
theorem dX5_source_69 : decode cX5_source 69 = .ok (.aload_n 0, 1) := by decide +kernel
theorem dX5_source_70 : decode cX5_source 70 = .ok (.getfield 32, 3) := by decide +kernel
theorem dX5_source_73 : decode cX5_source 73 = .ok (.aload_n 0, 1) := by decide +kernel
theorem dX5_source_74 : decode cX5_source 74 = .ok (.getfield 87, 3) := by decide +kernel
theorem dX5_source_77 : decode cX5_source 77 = .ok (.iload_n 1, 1) := by decide +kernel
theorem dX5_source_78 : decode cX5_source 78 = .ok (.iastore, 1) := by decide +kernel
theorem dX5_source_79 : decode cX5_source 79 = .ok (.aload_n 0, 1) := by decide +kernel
theorem dX5_source_80 : decode cX5_source 80 = .ok (.getfield 35, 3) := by decide +kernel
theorem dX5_source_83 : decode cX5_source 83 = .ok (.aload_n 0, 1) := by decide +kernel
theorem dX5_source_84 : decode cX5_source 84 = .ok (.getfield 87, 3) := by decide +kernel
theorem dX5_source_87 : decode cX5_source 87 = .ok (.iload_n 2, 1) := by decide +kernel
theorem dX5_source_88 : decode cX5_source 88 = .ok (.iastore, 1) := by decide +kernel
theorem dX5_source_89 : decode cX5_source 89 = .ok (.aload_n 0, 1) := by decide +kernel
theorem dX5_source_90 : decode cX5_source 90 = .ok (.getfield 38, 3) := by decide +kernel
theorem dX5_source_93 : decode cX5_source 93 = .ok (.aload_n 0, 1) := by decide +kernel
theorem dX5_source_94 : decode cX5_source 94 = .ok (.getfield 87, 3) := by decide +kernel
theorem dX5_source_97 : decode cX5_source 97 = .ok (.iload_n 3, 1) := by decide +kernel
theorem dX5_source_98 : decode cX5_source 98 = .ok (.iastore, 1) := by decide +kernel
theorem dX5_source_99 : decode cX5_source 99 = .ok (.aload_n 0, 1) := by decide +kernel
theorem dX5_source_100 : decode cX5_source 100 = .ok (.dup, 1) := by decide +kernel
theorem dX5_source_101 : decode cX5_source 101 = .ok (.getfield 87, 3) := by decide +kernel
theorem dX5_source_104 : decode cX5_source 104 = .ok (.iconst 1, 1) := by decide +kernel
theorem dX5_source_105 : decode cX5_source 105 = .ok (.iadd, 1) := by decide +kernel
theorem dX5_source_106 : decode cX5_source 106 = .ok (.putfield 87, 3) := by decide +kernel
theorem dX5_source_109 : decode cX5_source 109 = .ok (.aload_n 0, 1) := by decide +kernel
theorem dX5_source_110 : decode cX5_source 110 = .ok (.getfield 87, 3) := by decide +kernel
theorem dX5_source_113 : decode cX5_source 113 = .ok (.iconst 1, 1) := by decide +kernel
theorem dX5_source_114 : decode cX5_source 114 = .ok (.isub, 1) := by decide +kernel
theorem dX5_source_115 : decode cX5_source 115 = .ok (.ireturn, 1) := by decide +kernel
theorem dX5_silence_0 : decode cX5_silence 0 = .ok (.aload_n 0, 1) := by decide +kernel
theorem dX5_silence_1 : decode cX5_silence 1 = .ok (.iconst 0, 1) := by decide +kernel
theorem dX5_silence_2 : decode cX5_silence 2 = .ok (.putfield 58, 3) := by decide +kernel
theorem dX5_silence_5 : decode cX5_silence 5 = .ok (.aload_n 0, 1) := by decide +kernel
theorem dX5_silence_6 : decode cX5_silence 6 = .ok (.getfield 87, 3) := by decide +kernel
theorem dX5_silence_9 : decode cX5_silence 9 = .ok (.istore_n 1, 1) := by decide +kernel
theorem dX5_silence_10 : decode cX5_silence 10 = .ok (.aload_n 0, 1) := by decide +kernel
theorem dX5_silence_11 : decode cX5_silence 11 = .ok (.iconst 0, 1) := by decide +kernel
theorem dX5_silence_12 : decode cX5_silence 12 = .ok (.putfield 87, 3) := by decide +kernel
theorem dX5_silence_15 : decode cX5_silence 15 = .ok (.iload_n 1, 1) := by decide +kernel
theorem dX5_silence_16 : decode cX5_silence 16 = .ok (.ireturn, 1) := by decide +kernel
theorem dX5_noise_0 : decode cX5_noise 0 = .ok (.aload_n 0, 1) := by decide +kernel
theorem dX5_noise_1 : decode cX5_noise 1 = .ok (.iload_n 1, 1) := by decide +kernel
theorem dX5_noise_2 : decode cX5_noise 2 = .ok (.iconst 0, 1) := by decide +kernel
theorem dX5_noise_3 : decode cX5_noise 3 = .ok (.bipush 50, 2) := by decide +kernel
theorem dX5_noise_5 : decode cX5_noise 5 = .ok (.invokestatic 64, 3) := by decide +kernel
theorem dX5_noise_8 : decode cX5_noise 8 = .ok (.ifCond .eq 17, 3) := by decide +kernel
theorem dX5_noise_11 : decode cX5_noise 11 = .ok (.iload_n 2, 1) := by decide +kernel
theorem dX5_noise_12 : decode cX5_noise 12 = .ok (.iconst 1, 1) := by decide +kernel
theorem dX5_noise_13 : decode cX5_noise 13 = .ok (.ldc 90, 2) := by decide +kernel
theorem dX5_noise_15 : decode cX5_noise 15 = .ok (.invokestatic 64, 3) := by decide +kernel
theorem dX5_noise_18 : decode cX5_noise 18 = .ok (.ifCond .eq 7, 3) := by decide +kernel
theorem dX5_noise_21 : decode cX5_noise 21 = .ok (.iconst 0, 1) := by decide +kernel
theorem dX5_noise_22 : decode cX5_noise 22 = .ok (.goto 4, 3) := by decide +kernel
theorem dX5_noise_25 : decode cX5_noise 25 = .ok (.iconst 1, 1) := by decide +kernel
theorem dX5_noise_26 : decode cX5_noise 26 = .ok (.invokevirtual 74, 3) := by decide +kernel
theorem dX5_noise_29 : decode cX5_noise 29 = .ok (.ifCond .ne 5, 3) := by decide +kernel
theorem dX5_noise_32 : decode cX5_noise 32 = .ok (.iconst 0, 1) := by decide +kernel
theorem dX5_noise_33 : decode cX5_noise 33 = .ok (.ireturn, 1) := by decide +kernel
theorem dX5_noise_34 : decode cX5_noise 34 = .ok (.aload_n 0, 1) := by decide +kernel
theorem dX5_noise_35 : decode cX5_noise 35 = .ok (.getfield 91, 3) := by decide +kernel
theorem dX5_noise_38 : decode cX5_noise 38 = .ok (.istore_n 3, 1) := by decide +kernel
theorem dX5_noise_39 : decode cX5_noise 39 = .ok (.aload_n 0, 1) := by decide +kernel
theorem dX5_noise_40 : decode cX5_noise 40 = .ok (.iload_n 1, 1) := by decide +kernel
theorem dX5_noise_41 : decode cX5_noise 41 = .ok (.putfield 91, 3) := by decide +kernel
theorem dX5_noise_44 : decode cX5_noise 44 = .ok (.aload_n 0, 1) := by decide +kernel
theorem dX5_noise_45 : decode cX5_noise 45 = .ok (.iload_n 2, 1) := by decide +kernel
theorem dX5_noise_46 : decode cX5_noise 46 = .ok (.putfield 54, 3) := by decide +kernel
theorem dX5_noise_49 : decode cX5_noise 49 = .ok (.iload_n 3, 1) := by decide +kernel
theorem dX5_noise_50 : decode cX5_noise 50 = .ok (.ireturn, 1) := by decide +kernel
theorem dX5_wave_0 : decode cX5_wave 0 = .ok (.iload_n 2, 1) := by decide +kernel
theorem dX5_wave_1 : decode cX5_wave 1 = .ok (.aload_n 0, 1) := by decide +kernel
