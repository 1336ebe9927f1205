theorem dX0_init_0 : decode cX0_init 0 = .ok (.aload_n 0, 1) := by decide +kernel
theorem dX0_init_1 : decode cX0_init 1 = .ok (.invokespecial 3, 3) := by decide +kernel
theorem dX0_init_4 : decode cX0_init 4 = .ok (.aload_n 0, 1) := by decide +kernel
theorem dX0_init_5 : decode cX0_init 5 = .ok (.new 9, 3) := by decide +kernel
theorem dX0_init_8 : decode cX0_init 8 = .ok (.dup, 1) := by decide +kernel
theorem dX0_init_9 : decode cX0_init 9 = .ok (.invokespecial 11, 3) := by decide +kernel
theorem dX0_init_12 : decode cX0_init 12 = .ok (.putfield 12, 3) := by decide +kernel
theorem dX0_init_15 : decode cX0_init 15 = .ok (.aload_n 0, 1) := by decide +kernel
theorem dX0_init_16 : decode cX0_init 16 = .ok (.bipush 64, 2) := by decide +kernel
theorem dX0_init_18 : decode cX0_init 18 = .ok (.newarray .long, 2) := by decide +kernel
theorem dX0_init_20 : decode cX0_init 20 = .ok (.putfield 18, 3) := by decide +kernel
theorem dX0_init_23 : decode cX0_init 23 = .ok (.aload_n 0, 1) := by decide +kernel
theorem dX0_init_24 : decode cX0_init 24 = .ok (.bipush 64, 2) := by decide +kernel
theorem dX0_init_26 : decode cX0_init 26 = .ok (.newarray .long, 2) := by decide +kernel
theorem dX0_init_28 : decode cX0_init 28 = .ok (.putfield 22, 3) := by decide +kernel
theorem dX0_init_31 : decode cX0_init 31 = .ok (.aload_n 0, 1) := by decide +kernel
theorem dX0_init_32 : decode cX0_init 32 = .ok (.bipush 64, 2) := by decide +kernel
theorem dX0_init_34 : decode cX0_init 34 = .ok (.putfield 25, 3) := by decide +kernel
theorem dX0_init_37 : decode cX0_init 37 = .ok (.return_, 1) := by decide +kernel
theorem dX0_putUp_0 : decode cX0_putUp 0 = .ok (.aload_n 0, 1) := by decide +kernel
theorem dX0_putUp_1 : decode cX0_putUp 1 = .ok (.iconst 1, 1) := by decide +kernel
theorem dX0_putUp_2 : decode cX0_putUp 2 = .ok (.putfield 29, 3) := by decide +kernel
theorem dX0_putUp_5 : decode cX0_putUp 5 = .ok (.aload_n 0, 1) := by decide +kernel
theorem dX0_putUp_6 : decode cX0_putUp 6 = .ok (.iconst 1, 1) := by decide +kernel
theorem dX0_putUp_7 : decode cX0_putUp 7 = .ok (.putfield 33, 3) := by decide +kernel
theorem dX0_putUp_10 : decode cX0_putUp 10 = .ok (.aload_n 0, 1) := by decide +kernel
theorem dX0_putUp_11 : decode cX0_putUp 11 = .ok (.iload_n 1, 1) := by decide +kernel
theorem dX0_putUp_12 : decode cX0_putUp 12 = .ok (.putfield 36, 3) := by decide +kernel
theorem dX0_putUp_15 : decode cX0_putUp 15 = .ok (.aload_n 0, 1) := by decide +kernel
theorem dX0_putUp_16 : decode cX0_putUp 16 = .ok (.iload_n 2, 1) := by decide +kernel
theorem dX0_putUp_17 : decode cX0_putUp 17 = .ok (.putfield 39, 3) := by decide +kernel
theorem dX0_putUp_20 : decode cX0_putUp 20 = .ok (.aload_n 0, 1) := by decide +kernel
theorem dX0_putUp_21 : decode cX0_putUp 21 = .ok (.iload_n 3, 1) := by decide +kernel
theorem dX0_putUp_22 : decode cX0_putUp 22 = .ok (.putfield 42, 3) := by decide +kernel
theorem dX0_putUp_25 : decode cX0_putUp 25 = .ok (.aload_n 0, 1) := by decide +kernel
theorem dX0_putUp_26 : decode cX0_putUp 26 = .ok (.getfield 12, 3) := by decide +kernel
theorem dX0_putUp_29 : decode cX0_putUp 29 = .ok (.iload 4, 2) := by decide +kernel
theorem dX0_putUp_31 : decode cX0_putUp 31 = .ok (.invokevirtual 45, 3) := by decide +kernel
theorem dX0_putUp_34 : decode cX0_putUp 34 = .ok (.return_, 1) := by decide +kernel
theorem dX0_isUp_0 : decode cX0_isUp 0 = .ok (.aload_n 0, 1) := by decide +kernel
theorem dX0_isUp_1 : decode cX0_isUp 1 = .ok (.getfield 29, 3) := by decide +kernel
theorem dX0_isUp_4 : decode cX0_isUp 4 = .ok (.ireturn, 1) := by decide +kernel
theorem dX0_isLiving_0 : decode cX0_isLiving 0 = .ok (.aload_n 0, 1) := by decide +kernel
theorem dX0_isLiving_1 : decode cX0_isLiving 1 = .ok (.getfield 33, 3) := by decide +kernel
theorem dX0_isLiving_4 : decode cX0_isLiving 4 = .ok (.ireturn, 1) := by decide +kernel
theorem dX0_setLiving_0 : decode cX0_setLiving 0 = .ok (.aload_n 0, 1) := by decide +kernel
theorem dX0_setLiving_1 : decode cX0_setLiving 1 = .ok (.iload_n 1, 1) := by decide +kernel
theorem dX0_setLiving_2 : decode cX0_setLiving 2 = .ok (.putfield 33, 3) := by decide +kernel
theorem dX0_setLiving_5 : decode cX0_setLiving 5 = .ok (.return_, 1) := by decide +kernel
theorem dX0_getLag_0 : decode cX0_getLag 0 = .ok (.aload_n 0, 1) := by decide +kernel
theorem dX0_getLag_1 : decode cX0_getLag 1 = .ok (.getfield 42, 3) := by decide +kernel
theorem dX0_getLag_4 : decode cX0_getLag 4 = .ok (.ireturn, 1) := by decide +kernel
theorem dX0_getTrimGain_0 : decode cX0_getTrimGain 0 = .ok (.aload_n 0, 1) := by decide +kernel
theorem dX0_getTrimGain_1 : decode cX0_getTrimGain 1 = .ok (.getfield 25, 3) := by decide +kernel
theorem dX0_getTrimGain_4 : decode cX0_getTrimGain 4 = .ok (.ireturn, 1) := by decide +kernel
theorem dX0_getTrimLag_0 : decode cX0_getTrimLag 0 = .ok (.aload_n 0, 1) := by decide +kernel
theorem dX0_getTrimLag_1 : decode cX0_getTrimLag 1 = .ok (.getfield 49, 3) := by decide +kernel
theorem dX0_getTrimLag_4 : decode cX0_getTrimLag 4 = .ok (.ireturn, 1) := by decide +kernel
theorem dX0_trim_0 : decode cX0_trim 0 = .ok (.iload_n 1, 1) := by decide +kernel
theorem dX0_trim_1 : decode cX0_trim 1 = .ok (.aload_n 0, 1) := by decide +kernel
theorem dX0_trim_2 : decode cX0_trim 2 = .ok (.getfield 25, 3) := by decide +kernel
theorem dX0_trim_5 : decode cX0_trim 5 = .ok (.if_icmp .ne 11, 3) := by decide +kernel
theorem dX0_trim_8 : decode cX0_trim 8 = .ok (.iload_n 2, 1) := by decide +kernel
theorem dX0_trim_9 : decode cX0_trim 9 = .ok (.aload_n 0, 1) := by decide +kernel
theorem dX0_trim_10 : decode cX0_trim 10 = .ok (.getfield 49, 3) := by decide +kernel
theorem dX0_trim_13 : decode cX0_trim 13 = .ok (.if_icmp .eq 7, 3) := by decide +kernel
theorem dX0_trim_16 : decode cX0_trim 16 = .ok (.iconst 1, 1) := by decide +kernel
theorem dX0_trim_17 : decode cX0_trim 17 = .ok (.goto 4, 3) := by decide +kernel
theorem dX0_trim_20 : decode cX0_trim 20 = .ok (.iconst 0, 1) := by decide +kernel
theorem dX0_trim_21 : decode cX0_trim 21 = .ok (.istore_n 3, 1) := by decide +kernel
theorem dX0_trim_22 : decode cX0_trim 22 = .ok (.aload_n 0, 1) := by decide +kernel
theorem dX0_trim_23 : decode cX0_trim 23 = .ok (.iload_n 1, 1) := by decide +kernel
theorem dX0_trim_24 : decode cX0_trim 24 = .ok (.putfield 25, 3) := by decide +kernel
theorem dX0_trim_27 : decode cX0_trim 27 = .ok (.aload_n 0, 1) := by decide +kernel
theorem dX0_trim_28 : decode cX0_trim 28 = .ok (.iload_n 2, 1) := by decide +kernel
theorem dX0_trim_29 : decode cX0_trim 29 = .ok (.putfield 49, 3) := by decide +kernel
theorem dX0_trim_32 : decode cX0_trim 32 = .ok (.iload_n 3, 1) := by decide +kernel
theorem dX0_trim_33 : decode cX0_trim 33 = .ok (.ireturn, 1) := by decide +kernel
theorem dX0_delayFor_0 : decode cX0_delayFor 0 = .ok (.aload_n 0, 1) := by decide +kernel
theorem dX0_delayFor_1 : decode cX0_delayFor 1 = .ok (.getfield 36, 3) := by decide +kernel
theorem dX0_delayFor_4 : decode cX0_delayFor 4 = .ok (.iload_n 1, 1) := by decide +kernel
theorem dX0_delayFor_5 : decode cX0_delayFor 5 = .ok (.imul, 1) := by decide +kernel
theorem dX0_delayFor_6 : decode cX0_delayFor 6 = .ok (.iconst 4, 1) := by decide +kernel
theorem dX0_delayFor_7 : decode cX0_delayFor 7 = .ok (.invokestatic 52, 3) := by decide +kernel
theorem dX0_delayFor_10 : decode cX0_delayFor 10 = .ok (.ireturn, 1) := by decide +kernel
theorem dX0_heardOf_0 : decode cX0_heardOf 0 = .ok (.iload_n 1, 1) := by decide +kernel
theorem dX0_heardOf_1 : decode cX0_heardOf 1 = .ok (.aload_n 0, 1) := by decide +kernel
theorem dX0_heardOf_2 : decode cX0_heardOf 2 = .ok (.getfield 39, 3) := by decide +kernel
theorem dX0_heardOf_5 : decode cX0_heardOf 5 = .ok (.imul, 1) := by decide +kernel
theorem dX0_heardOf_6 : decode cX0_heardOf 6 = .ok (.bipush 64, 2) := by decide +kernel
theorem dX0_heardOf_8 : decode cX0_heardOf 8 = .ok (.invokestatic 52, 3) := by decide +kernel
theorem dX0_heardOf_11 : decode cX0_heardOf 11 = .ok (.ireturn, 1) := by decide +kernel
theorem dX0_keep_0 : decode cX0_keep 0 = .ok (.aload_n 0, 1) := by decide +kernel
theorem dX0_keep_1 : decode cX0_keep 1 = .ok (.getfield 12, 3) := by decide +kernel
theorem dX0_keep_4 : decode cX0_keep 4 = .ok (.iload_n 1, 1) := by decide +kernel
theorem dX0_keep_5 : decode cX0_keep 5 = .ok (.invokevirtual 58, 3) := by decide +kernel
theorem dX0_keep_8 : decode cX0_keep 8 = .ok (.return_, 1) := by decide +kernel
theorem dX0_keptAt_0 : decode cX0_keptAt 0 = .ok (.aload_n 0, 1) := by decide +kernel
theorem dX0_keptAt_1 : decode cX0_keptAt 1 = .ok (.getfield 12, 3) := by decide +kernel
theorem dX0_keptAt_4 : decode cX0_keptAt 4 = .ok (.bipush 63, 2) := by decide +kernel
theorem dX0_keptAt_6 : decode cX0_keptAt 6 = .ok (.iload_n 1, 1) := by decide +kernel
theorem dX0_keptAt_7 : decode cX0_keptAt 7 = .ok (.isub, 1) := by decide +kernel
theorem dX0_keptAt_8 : decode cX0_keptAt 8 = .ok (.invokevirtual 61, 3) := by decide +kernel
theorem dX0_keptAt_11 : decode cX0_keptAt 11 = .ok (.ireturn, 1) := by decide +kernel
theorem dX0_layOut_0 : decode cX0_layOut 0 = .ok (.aload_n 0, 1) := by decide +kernel
theorem dX0_layOut_1 : decode cX0_layOut 1 = .ok (.iload_n 1, 1) := by decide +kernel
theorem dX0_layOut_2 : decode cX0_layOut 2 = .ok (.i2l, 1) := by decide +kernel
theorem dX0_layOut_3 : decode cX0_layOut 3 = .ok (.putfield 65, 3) := by decide +kernel
theorem dX0_layOut_6 : decode cX0_layOut 6 = .ok (.aload_n 0, 1) := by decide +kernel
theorem dX0_layOut_7 : decode cX0_layOut 7 = .ok (.getfield 65, 3) := by decide +kernel
theorem dX0_layOut_10 : decode cX0_layOut 10 = .ok (.lconst 0, 1) := by decide +kernel
theorem dX0_layOut_11 : decode cX0_layOut 11 = .ok (.lcmp, 1) := by decide +kernel
theorem dX0_layOut_12 : decode cX0_layOut 12 = .ok (.ifCond .le 39, 3) := by decide +kernel
theorem dX0_layOut_15 : decode cX0_layOut 15 = .ok (.iconst 0, 1) := by decide +kernel
theorem dX0_layOut_16 : decode cX0_layOut 16 = .ok (.istore_n 2, 1) := by decide +kernel
theorem dX0_layOut_17 : decode cX0_layOut 17 = .ok (.iload_n 2, 1) := by decide +kernel
theorem dX0_layOut_18 : decode cX0_layOut 18 = .ok (.aload_n 0, 1) := by decide +kernel
theorem dX0_layOut_19 : decode cX0_layOut 19 = .ok (.getfield 18, 3) := by decide +kernel
theorem dX0_layOut_22 : decode cX0_layOut 22 = .ok (.arraylength, 1) := by decide +kernel
theorem dX0_layOut_23 : decode cX0_layOut 23 = .ok (.if_icmp .ge 24, 3) := by decide +kernel
theorem dX0_layOut_26 : decode cX0_layOut 26 = .ok (.aload_n 0, 1) := by decide +kernel
theorem dX0_layOut_27 : decode cX0_layOut 27 = .ok (.getfield 18, 3) := by decide +kernel
theorem dX0_layOut_30 : decode cX0_layOut 30 = .ok (.iload_n 2, 1) := by decide +kernel
theorem dX0_layOut_31 : decode cX0_layOut 31 = .ok (.aload_n 0, 1) := by decide +kernel
theorem dX0_layOut_32 : decode cX0_layOut 32 = .ok (.getfield 12, 3) := by decide +kernel
theorem dX0_layOut_35 : decode cX0_layOut 35 = .ok (.iload_n 2, 1) := by decide +kernel
theorem dX0_layOut_36 : decode cX0_layOut 36 = .ok (.invokevirtual 61, 3) := by decide +kernel
theorem dX0_layOut_39 : decode cX0_layOut 39 = .ok (.i2l, 1) := by decide +kernel
theorem dX0_layOut_40 : decode cX0_layOut 40 = .ok (.lastore, 1) := by decide +kernel
theorem dX0_layOut_41 : decode cX0_layOut 41 = .ok (.iinc 2 1, 3) := by decide +kernel
theorem dX0_layOut_44 : decode cX0_layOut 44 = .ok (.goto (-27), 3) := by decide +kernel
theorem dX0_layOut_47 : decode cX0_layOut 47 = .ok (.aload_n 0, 1) := by decide +kernel
theorem dX0_layOut_48 : decode cX0_layOut 48 = .ok (.invokevirtual 69, 3) := by decide +kernel
theorem dX0_layOut_51 : decode cX0_layOut 51 = .ok (.return_, 1) := by decide +kernel
theorem dX0_turnAll_0 : decode cX0_turnAll 0 = .ok (.aload_n 0, 1) := by decide +kernel
theorem dX0_turnAll_1 : decode cX0_turnAll 1 = .ok (.getfield 65, 3) := by decide +kernel
theorem dX0_turnAll_4 : decode cX0_turnAll 4 = .ok (.lconst 0, 1) := by decide +kernel
theorem dX0_turnAll_5 : decode cX0_turnAll 5 = .ok (.lcmp, 1) := by decide +kernel
theorem dX0_turnAll_6 : decode cX0_turnAll 6 = .ok (.ifCond .le 60, 3) := by decide +kernel
theorem dX0_turnAll_9 : decode cX0_turnAll 9 = .ok (.aload_n 0, 1) := by decide +kernel
theorem dX0_turnAll_10 : decode cX0_turnAll 10 = .ok (.getfield 25, 3) := by decide +kernel
theorem dX0_turnAll_13 : decode cX0_turnAll 13 = .ok (.ifCond .le 53, 3) := by decide +kernel
theorem dX0_turnAll_16 : decode cX0_turnAll 16 = .ok (.iconst 0, 1) := by decide +kernel
theorem dX0_turnAll_17 : decode cX0_turnAll 17 = .ok (.istore_n 1, 1) := by decide +kernel
theorem dX0_turnAll_18 : decode cX0_turnAll 18 = .ok (.iload_n 1, 1) := by decide +kernel
theorem dX0_turnAll_19 : decode cX0_turnAll 19 = .ok (.aload_n 0, 1) := by decide +kernel
theorem dX0_turnAll_20 : decode cX0_turnAll 20 = .ok (.getfield 22, 3) := by decide +kernel
theorem dX0_turnAll_23 : decode cX0_turnAll 23 = .ok (.arraylength, 1) := by decide +kernel
theorem dX0_turnAll_24 : decode cX0_turnAll 24 = .ok (.if_icmp .ge 42, 3) := by decide +kernel
theorem dX0_turnAll_27 : decode cX0_turnAll 27 = .ok (.iload_n 1, 1) := by decide +kernel
theorem dX0_turnAll_28 : decode cX0_turnAll 28 = .ok (.aload_n 0, 1) := by decide +kernel
theorem dX0_turnAll_29 : decode cX0_turnAll 29 = .ok (.getfield 18, 3) := by decide +kernel
theorem dX0_turnAll_32 : decode cX0_turnAll 32 = .ok (.arraylength, 1) := by decide +kernel
theorem dX0_turnAll_33 : decode cX0_turnAll 33 = .ok (.if_icmp .ge 33, 3) := by decide +kernel
theorem dX0_turnAll_36 : decode cX0_turnAll 36 = .ok (.aload_n 0, 1) := by decide +kernel
theorem dX0_turnAll_37 : decode cX0_turnAll 37 = .ok (.getfield 22, 3) := by decide +kernel
theorem dX0_turnAll_40 : decode cX0_turnAll 40 = .ok (.iload_n 1, 1) := by decide +kernel
theorem dX0_turnAll_41 : decode cX0_turnAll 41 = .ok (.aload_n 0, 1) := by decide +kernel
theorem dX0_turnAll_42 : decode cX0_turnAll 42 = .ok (.getfield 18, 3) := by decide +kernel
theorem dX0_turnAll_45 : decode cX0_turnAll 45 = .ok (.iload_n 1, 1) := by decide +kernel
theorem dX0_turnAll_46 : decode cX0_turnAll 46 = .ok (.laload, 1) := by decide +kernel
theorem dX0_turnAll_47 : decode cX0_turnAll 47 = .ok (.ldc2_w 72, 3) := by decide +kernel
theorem dX0_turnAll_50 : decode cX0_turnAll 50 = .ok (.lmul, 1) := by decide +kernel
theorem dX0_turnAll_51 : decode cX0_turnAll 51 = .ok (.aload_n 0, 1) := by decide +kernel
theorem dX0_turnAll_52 : decode cX0_turnAll 52 = .ok (.getfield 25, 3) := by decide +kernel
theorem dX0_turnAll_55 : decode cX0_turnAll 55 = .ok (.i2l, 1) := by decide +kernel
theorem dX0_turnAll_56 : decode cX0_turnAll 56 = .ok (.invokestatic 74, 3) := by decide +kernel
theorem dX0_turnAll_59 : decode cX0_turnAll 59 = .ok (.lastore, 1) := by decide +kernel
theorem dX0_turnAll_60 : decode cX0_turnAll 60 = .ok (.iinc 1 1, 3) := by decide +kernel
theorem dX0_turnAll_63 : decode cX0_turnAll 63 = .ok (.goto (-45), 3) := by decide +kernel
theorem dX0_turnAll_66 : decode cX0_turnAll 66 = .ok (.return_, 1) := by decide +kernel
theorem dX0_firstTold_0 : decode cX0_firstTold 0 = .ok (.bipush 16, 2) := by decide +kernel
theorem dX0_firstTold_2 : decode cX0_firstTold 2 = .ok (.aload_n 0, 1) := by decide +kernel
theorem dX0_firstTold_3 : decode cX0_firstTold 3 = .ok (.iload_n 1, 1) := by decide +kernel
theorem dX0_firstTold_4 : decode cX0_firstTold 4 = .ok (.invokevirtual 77, 3) := by decide +kernel
theorem dX0_firstTold_7 : decode cX0_firstTold 7 = .ok (.iadd, 1) := by decide +kernel
theorem dX0_firstTold_8 : decode cX0_firstTold 8 = .ok (.aload_n 0, 1) := by decide +kernel
theorem dX0_firstTold_9 : decode cX0_firstTold 9 = .ok (.getfield 49, 3) := by decide +kernel
theorem dX0_firstTold_12 : decode cX0_firstTold 12 = .ok (.iadd, 1) := by decide +kernel
theorem dX0_firstTold_13 : decode cX0_firstTold 13 = .ok (.ireturn, 1) := by decide +kernel
theorem dX0_toldAt_0 : decode cX0_toldAt 0 = .ok (.iload_n 1, 1) := by decide +kernel
theorem dX0_toldAt_1 : decode cX0_toldAt 1 = .ok (.ifCond .lt 21, 3) := by decide +kernel
theorem dX0_toldAt_4 : decode cX0_toldAt 4 = .ok (.iload_n 1, 1) := by decide +kernel
theorem dX0_toldAt_5 : decode cX0_toldAt 5 = .ok (.aload_n 0, 1) := by decide +kernel
theorem dX0_toldAt_6 : decode cX0_toldAt 6 = .ok (.getfield 22, 3) := by decide +kernel
theorem dX0_toldAt_9 : decode cX0_toldAt 9 = .ok (.arraylength, 1) := by decide +kernel
theorem dX0_toldAt_10 : decode cX0_toldAt 10 = .ok (.if_icmp .ge 12, 3) := by decide +kernel
theorem dX0_toldAt_13 : decode cX0_toldAt 13 = .ok (.aload_n 0, 1) := by decide +kernel
theorem dX0_toldAt_14 : decode cX0_toldAt 14 = .ok (.getfield 22, 3) := by decide +kernel
theorem dX0_toldAt_17 : decode cX0_toldAt 17 = .ok (.iload_n 1, 1) := by decide +kernel
theorem dX0_toldAt_18 : decode cX0_toldAt 18 = .ok (.laload, 1) := by decide +kernel
theorem dX0_toldAt_19 : decode cX0_toldAt 19 = .ok (.goto 4, 3) := by decide +kernel
theorem dX0_toldAt_22 : decode cX0_toldAt 22 = .ok (.lconst 0, 1) := by decide +kernel
theorem dX0_toldAt_23 : decode cX0_toldAt 23 = .ok (.lreturn, 1) := by decide +kernel
theorem dX0_laidAt_0 : decode cX0_laidAt 0 = .ok (.iload_n 1, 1) := by decide +kernel
theorem dX0_laidAt_1 : decode cX0_laidAt 1 = .ok (.ifCond .lt 21, 3) := by decide +kernel
theorem dX0_laidAt_4 : decode cX0_laidAt 4 = .ok (.iload_n 1, 1) := by decide +kernel
theorem dX0_laidAt_5 : decode cX0_laidAt 5 = .ok (.aload_n 0, 1) := by decide +kernel
theorem dX0_laidAt_6 : decode cX0_laidAt 6 = .ok (.getfield 18, 3) := by decide +kernel
theorem dX0_laidAt_9 : decode cX0_laidAt 9 = .ok (.arraylength, 1) := by decide +kernel
theorem dX0_laidAt_10 : decode cX0_laidAt 10 = .ok (.if_icmp .ge 12, 3) := by decide +kernel
theorem dX0_laidAt_13 : decode cX0_laidAt 13 = .ok (.aload_n 0, 1) := by decide +kernel
theorem dX0_laidAt_14 : decode cX0_laidAt 14 = .ok (.getfield 18, 3) := by decide +kernel
theorem dX0_laidAt_17 : decode cX0_laidAt 17 = .ok (.iload_n 1, 1) := by decide +kernel
theorem dX0_laidAt_18 : decode cX0_laidAt 18 = .ok (.laload, 1) := by decide +kernel
theorem dX0_laidAt_19 : decode cX0_laidAt 19 = .ok (.goto 4, 3) := by decide +kernel
theorem dX0_laidAt_22 : decode cX0_laidAt 22 = .ok (.lconst 0, 1) := by decide +kernel
theorem dX0_laidAt_23 : decode cX0_laidAt 23 = .ok (.lreturn, 1) := by decide +kernel
theorem dX0_tellTo_0 : decode cX0_tellTo 0 = .ok (.aload_n 0, 1) := by decide +kernel
theorem dX0_tellTo_1 : decode cX0_tellTo 1 = .ok (.getfield 65, 3) := by decide +kernel
theorem dX0_tellTo_4 : decode cX0_tellTo 4 = .ok (.lconst 0, 1) := by decide +kernel
theorem dX0_tellTo_5 : decode cX0_tellTo 5 = .ok (.lcmp, 1) := by decide +kernel
theorem dX0_tellTo_6 : decode cX0_tellTo 6 = .ok (.ifCond .le 45, 3) := by decide +kernel
theorem dX0_tellTo_9 : decode cX0_tellTo 9 = .ok (.aload_n 0, 1) := by decide +kernel
theorem dX0_tellTo_10 : decode cX0_tellTo 10 = .ok (.iload_n 2, 1) := by decide +kernel
theorem dX0_tellTo_11 : decode cX0_tellTo 11 = .ok (.invokevirtual 80, 3) := by decide +kernel
theorem dX0_tellTo_14 : decode cX0_tellTo 14 = .ok (.istore_n 3, 1) := by decide +kernel
theorem dX0_tellTo_15 : decode cX0_tellTo 15 = .ok (.iconst 0, 1) := by decide +kernel
theorem dX0_tellTo_16 : decode cX0_tellTo 16 = .ok (.istore 4, 2) := by decide +kernel
theorem dX0_tellTo_18 : decode cX0_tellTo 18 = .ok (.iload 4, 2) := by decide +kernel
theorem dX0_tellTo_20 : decode cX0_tellTo 20 = .ok (.aload_n 1, 1) := by decide +kernel
theorem dX0_tellTo_21 : decode cX0_tellTo 21 = .ok (.arraylength, 1) := by decide +kernel
theorem dX0_tellTo_22 : decode cX0_tellTo 22 = .ok (.if_icmp .ge 29, 3) := by decide +kernel
theorem dX0_tellTo_25 : decode cX0_tellTo 25 = .ok (.aload_n 1, 1) := by decide +kernel
theorem dX0_tellTo_26 : decode cX0_tellTo 26 = .ok (.iload 4, 2) := by decide +kernel
theorem dX0_tellTo_28 : decode cX0_tellTo 28 = .ok (.dup2, 1) := by decide +kernel
theorem dX0_tellTo_29 : decode cX0_tellTo 29 = .ok (.laload, 1) := by decide +kernel
theorem dX0_tellTo_30 : decode cX0_tellTo 30 = .ok (.aload_n 0, 1) := by decide +kernel
theorem dX0_tellTo_31 : decode cX0_tellTo 31 = .ok (.getfield 65, 3) := by decide +kernel
theorem dX0_tellTo_34 : decode cX0_tellTo 34 = .ok (.aload_n 0, 1) := by decide +kernel
theorem dX0_tellTo_35 : decode cX0_tellTo 35 = .ok (.iload_n 3, 1) := by decide +kernel
theorem dX0_tellTo_36 : decode cX0_tellTo 36 = .ok (.iload 4, 2) := by decide +kernel
theorem dX0_tellTo_38 : decode cX0_tellTo 38 = .ok (.iadd, 1) := by decide +kernel
theorem dX0_tellTo_39 : decode cX0_tellTo 39 = .ok (.invokevirtual 83, 3) := by decide +kernel
theorem dX0_tellTo_42 : decode cX0_tellTo 42 = .ok (.lmul, 1) := by decide +kernel
theorem dX0_tellTo_43 : decode cX0_tellTo 43 = .ok (.ladd, 1) := by decide +kernel
theorem dX0_tellTo_44 : decode cX0_tellTo 44 = .ok (.lastore, 1) := by decide +kernel
theorem dX0_tellTo_45 : decode cX0_tellTo 45 = .ok (.iinc 4 1, 3) := by decide +kernel
theorem dX0_tellTo_48 : decode cX0_tellTo 48 = .ok (.goto (-30), 3) := by decide +kernel
theorem dX0_tellTo_51 : decode cX0_tellTo 51 = .ok (.return_, 1) := by decide +kernel
theorem dX0_toldWith_0 : decode cX0_toldWith 0 = .ok (.lconst 0, 1) := by decide +kernel
theorem dX0_toldWith_1 : decode cX0_toldWith 1 = .ok (.lstore_n 3, 1) := by decide +kernel
theorem dX0_toldWith_2 : decode cX0_toldWith 2 = .ok (.aload_n 0, 1) := by decide +kernel
theorem dX0_toldWith_3 : decode cX0_toldWith 3 = .ok (.getfield 65, 3) := by decide +kernel
theorem dX0_toldWith_6 : decode cX0_toldWith 6 = .ok (.lconst 0, 1) := by decide +kernel
theorem dX0_toldWith_7 : decode cX0_toldWith 7 = .ok (.lcmp, 1) := by decide +kernel
theorem dX0_toldWith_8 : decode cX0_toldWith 8 = .ok (.ifCond .le 64, 3) := by decide +kernel
theorem dX0_toldWith_11 : decode cX0_toldWith 11 = .ok (.aload_n 1, 1) := by decide +kernel
theorem dX0_toldWith_12 : decode cX0_toldWith 12 = .ok (.getfield 65, 3) := by decide +kernel
theorem dX0_toldWith_15 : decode cX0_toldWith 15 = .ok (.lconst 0, 1) := by decide +kernel
theorem dX0_toldWith_16 : decode cX0_toldWith 16 = .ok (.lcmp, 1) := by decide +kernel
theorem dX0_toldWith_17 : decode cX0_toldWith 17 = .ok (.ifCond .le 55, 3) := by decide +kernel
theorem dX0_toldWith_20 : decode cX0_toldWith 20 = .ok (.aload_n 0, 1) := by decide +kernel
theorem dX0_toldWith_21 : decode cX0_toldWith 21 = .ok (.iload_n 2, 1) := by decide +kernel
theorem dX0_toldWith_22 : decode cX0_toldWith 22 = .ok (.invokevirtual 80, 3) := by decide +kernel
theorem dX0_toldWith_25 : decode cX0_toldWith 25 = .ok (.istore 5, 2) := by decide +kernel
theorem dX0_toldWith_27 : decode cX0_toldWith 27 = .ok (.aload_n 1, 1) := by decide +kernel
theorem dX0_toldWith_28 : decode cX0_toldWith 28 = .ok (.iload_n 2, 1) := by decide +kernel
theorem dX0_toldWith_29 : decode cX0_toldWith 29 = .ok (.invokevirtual 80, 3) := by decide +kernel
theorem dX0_toldWith_32 : decode cX0_toldWith 32 = .ok (.istore 6, 2) := by decide +kernel
theorem dX0_toldWith_34 : decode cX0_toldWith 34 = .ok (.iconst 0, 1) := by decide +kernel
theorem dX0_toldWith_35 : decode cX0_toldWith 35 = .ok (.istore 7, 2) := by decide +kernel
theorem dX0_toldWith_37 : decode cX0_toldWith 37 = .ok (.iload 7, 2) := by decide +kernel
theorem dX0_toldWith_39 : decode cX0_toldWith 39 = .ok (.bipush 32, 2) := by decide +kernel
theorem dX0_toldWith_41 : decode cX0_toldWith 41 = .ok (.if_icmp .ge 31, 3) := by decide +kernel
theorem dX0_toldWith_44 : decode cX0_toldWith 44 = .ok (.lload_n 3, 1) := by decide +kernel
theorem dX0_toldWith_45 : decode cX0_toldWith 45 = .ok (.aload_n 0, 1) := by decide +kernel
theorem dX0_toldWith_46 : decode cX0_toldWith 46 = .ok (.iload 5, 2) := by decide +kernel
theorem dX0_toldWith_48 : decode cX0_toldWith 48 = .ok (.iload 7, 2) := by decide +kernel
theorem dX0_toldWith_50 : decode cX0_toldWith 50 = .ok (.iadd, 1) := by decide +kernel
theorem dX0_toldWith_51 : decode cX0_toldWith 51 = .ok (.invokevirtual 83, 3) := by decide +kernel
theorem dX0_toldWith_54 : decode cX0_toldWith 54 = .ok (.aload_n 1, 1) := by decide +kernel
theorem dX0_toldWith_55 : decode cX0_toldWith 55 = .ok (.iload 6, 2) := by decide +kernel
theorem dX0_toldWith_57 : decode cX0_toldWith 57 = .ok (.iload 7, 2) := by decide +kernel
theorem dX0_toldWith_59 : decode cX0_toldWith 59 = .ok (.iadd, 1) := by decide +kernel
theorem dX0_toldWith_60 : decode cX0_toldWith 60 = .ok (.invokevirtual 83, 3) := by decide +kernel
theorem dX0_toldWith_63 : decode cX0_toldWith 63 = .ok (.lmul, 1) := by decide +kernel
theorem dX0_toldWith_64 : decode cX0_toldWith 64 = .ok (.ladd, 1) := by decide +kernel
theorem dX0_toldWith_65 : decode cX0_toldWith 65 = .ok (.lstore_n 3, 1) := by decide +kernel
theorem dX0_toldWith_66 : decode cX0_toldWith 66 = .ok (.iinc 7 1, 3) := by decide +kernel
theorem dX0_toldWith_69 : decode cX0_toldWith 69 = .ok (.goto (-32), 3) := by decide +kernel
theorem dX0_toldWith_72 : decode cX0_toldWith 72 = .ok (.lload_n 3, 1) := by decide +kernel
theorem dX0_toldWith_73 : decode cX0_toldWith 73 = .ok (.aload_n 0, 1) := by decide +kernel
theorem dX0_toldWith_74 : decode cX0_toldWith 74 = .ok (.getfield 65, 3) := by decide +kernel
theorem dX0_toldWith_77 : decode cX0_toldWith 77 = .ok (.lmul, 1) := by decide +kernel
theorem dX0_toldWith_78 : decode cX0_toldWith 78 = .ok (.aload_n 1, 1) := by decide +kernel
theorem dX0_toldWith_79 : decode cX0_toldWith 79 = .ok (.getfield 65, 3) := by decide +kernel
theorem dX0_toldWith_82 : decode cX0_toldWith 82 = .ok (.lmul, 1) := by decide +kernel
theorem dX0_toldWith_83 : decode cX0_toldWith 83 = .ok (.lreturn, 1) := by decide +kernel
theorem dX0_takeAway_0 : decode cX0_takeAway 0 = .ok (.aload_n 0, 1) := by decide +kernel
theorem dX0_takeAway_1 : decode cX0_takeAway 1 = .ok (.iload_n 2, 1) := by decide +kernel
theorem dX0_takeAway_2 : decode cX0_takeAway 2 = .ok (.invokevirtual 80, 3) := by decide +kernel
theorem dX0_takeAway_5 : decode cX0_takeAway 5 = .ok (.iload_n 1, 1) := by decide +kernel
theorem dX0_takeAway_6 : decode cX0_takeAway 6 = .ok (.iadd, 1) := by decide +kernel
theorem dX0_takeAway_7 : decode cX0_takeAway 7 = .ok (.istore 5, 2) := by decide +kernel
theorem dX0_takeAway_9 : decode cX0_takeAway 9 = .ok (.aload_n 0, 1) := by decide +kernel
theorem dX0_takeAway_10 : decode cX0_takeAway 10 = .ok (.getfield 65, 3) := by decide +kernel
theorem dX0_takeAway_13 : decode cX0_takeAway 13 = .ok (.lconst 0, 1) := by decide +kernel
theorem dX0_takeAway_14 : decode cX0_takeAway 14 = .ok (.lcmp, 1) := by decide +kernel
theorem dX0_takeAway_15 : decode cX0_takeAway 15 = .ok (.ifCond .le 41, 3) := by decide +kernel
theorem dX0_takeAway_18 : decode cX0_takeAway 18 = .ok (.aload_n 0, 1) := by decide +kernel
theorem dX0_takeAway_19 : decode cX0_takeAway 19 = .ok (.getfield 12, 3) := by decide +kernel
theorem dX0_takeAway_22 : decode cX0_takeAway 22 = .ok (.iload 5, 2) := by decide +kernel
theorem dX0_takeAway_24 : decode cX0_takeAway 24 = .ok (.invokevirtual 87, 3) := by decide +kernel
theorem dX0_takeAway_27 : decode cX0_takeAway 27 = .ok (.ifCond .eq 29, 3) := by decide +kernel
theorem dX0_takeAway_30 : decode cX0_takeAway 30 = .ok (.iload 5, 2) := by decide +kernel
theorem dX0_takeAway_32 : decode cX0_takeAway 32 = .ok (.ifCond .lt 24, 3) := by decide +kernel
theorem dX0_takeAway_35 : decode cX0_takeAway 35 = .ok (.iload 5, 2) := by decide +kernel
theorem dX0_takeAway_37 : decode cX0_takeAway 37 = .ok (.aload_n 0, 1) := by decide +kernel
theorem dX0_takeAway_38 : decode cX0_takeAway 38 = .ok (.getfield 18, 3) := by decide +kernel
theorem dX0_takeAway_41 : decode cX0_takeAway 41 = .ok (.arraylength, 1) := by decide +kernel
theorem dX0_takeAway_42 : decode cX0_takeAway 42 = .ok (.if_icmp .ge 14, 3) := by decide +kernel
theorem dX0_takeAway_45 : decode cX0_takeAway 45 = .ok (.aload_n 0, 1) := by decide +kernel
theorem dX0_takeAway_46 : decode cX0_takeAway 46 = .ok (.getfield 18, 3) := by decide +kernel
theorem dX0_takeAway_49 : decode cX0_takeAway 49 = .ok (.iload 5, 2) := by decide +kernel
theorem dX0_takeAway_51 : decode cX0_takeAway 51 = .ok (.dup2, 1) := by decide +kernel
theorem dX0_takeAway_52 : decode cX0_takeAway 52 = .ok (.laload, 1) := by decide +kernel
theorem dX0_takeAway_53 : decode cX0_takeAway 53 = .ok (.lload_n 3, 1) := by decide +kernel
theorem dX0_takeAway_54 : decode cX0_takeAway 54 = .ok (.lsub, 1) := by decide +kernel
theorem dX0_takeAway_55 : decode cX0_takeAway 55 = .ok (.lastore, 1) := by decide +kernel
theorem dX0_takeAway_56 : decode cX0_takeAway 56 = .ok (.return_, 1) := by decide +kernel
theorem dX0_agreement_0 : decode cX0_agreement 0 = .ok (.bipush 16, 2) := by decide +kernel
theorem dX0_agreement_2 : decode cX0_agreement 2 = .ok (.aload_n 0, 1) := by decide +kernel
theorem dX0_agreement_3 : decode cX0_agreement 3 = .ok (.iload_n 2, 1) := by decide +kernel
theorem dX0_agreement_4 : decode cX0_agreement 4 = .ok (.invokevirtual 77, 3) := by decide +kernel
theorem dX0_agreement_7 : decode cX0_agreement 7 = .ok (.iadd, 1) := by decide +kernel
theorem dX0_agreement_8 : decode cX0_agreement 8 = .ok (.iload_n 3, 1) := by decide +kernel
theorem dX0_agreement_9 : decode cX0_agreement 9 = .ok (.iadd, 1) := by decide +kernel
theorem dX0_agreement_10 : decode cX0_agreement 10 = .ok (.istore 4, 2) := by decide +kernel
theorem dX0_agreement_12 : decode cX0_agreement 12 = .ok (.bipush 16, 2) := by decide +kernel
theorem dX0_agreement_14 : decode cX0_agreement 14 = .ok (.aload_n 1, 1) := by decide +kernel
theorem dX0_agreement_15 : decode cX0_agreement 15 = .ok (.iload_n 2, 1) := by decide +kernel
theorem dX0_agreement_16 : decode cX0_agreement 16 = .ok (.invokevirtual 77, 3) := by decide +kernel
theorem dX0_agreement_19 : decode cX0_agreement 19 = .ok (.iadd, 1) := by decide +kernel
theorem dX0_agreement_20 : decode cX0_agreement 20 = .ok (.istore 5, 2) := by decide +kernel
theorem dX0_agreement_22 : decode cX0_agreement 22 = .ok (.lconst 0, 1) := by decide +kernel
theorem dX0_agreement_23 : decode cX0_agreement 23 = .ok (.lstore 6, 2) := by decide +kernel
theorem dX0_agreement_25 : decode cX0_agreement 25 = .ok (.iconst 0, 1) := by decide +kernel
theorem dX0_agreement_26 : decode cX0_agreement 26 = .ok (.istore 8, 2) := by decide +kernel
theorem dX0_agreement_28 : decode cX0_agreement 28 = .ok (.iload 8, 2) := by decide +kernel
theorem dX0_agreement_30 : decode cX0_agreement 30 = .ok (.bipush 32, 2) := by decide +kernel
theorem dX0_agreement_32 : decode cX0_agreement 32 = .ok (.if_icmp .ge 33, 3) := by decide +kernel
theorem dX0_agreement_35 : decode cX0_agreement 35 = .ok (.lload 6, 2) := by decide +kernel
theorem dX0_agreement_37 : decode cX0_agreement 37 = .ok (.aload_n 0, 1) := by decide +kernel
theorem dX0_agreement_38 : decode cX0_agreement 38 = .ok (.iload 4, 2) := by decide +kernel
theorem dX0_agreement_40 : decode cX0_agreement 40 = .ok (.iload 8, 2) := by decide +kernel
theorem dX0_agreement_42 : decode cX0_agreement 42 = .ok (.iadd, 1) := by decide +kernel
theorem dX0_agreement_43 : decode cX0_agreement 43 = .ok (.invokevirtual 91, 3) := by decide +kernel
theorem dX0_agreement_46 : decode cX0_agreement 46 = .ok (.aload_n 1, 1) := by decide +kernel
theorem dX0_agreement_47 : decode cX0_agreement 47 = .ok (.iload 5, 2) := by decide +kernel
theorem dX0_agreement_49 : decode cX0_agreement 49 = .ok (.iload 8, 2) := by decide +kernel
theorem dX0_agreement_51 : decode cX0_agreement 51 = .ok (.iadd, 1) := by decide +kernel
theorem dX0_agreement_52 : decode cX0_agreement 52 = .ok (.invokevirtual 91, 3) := by decide +kernel
theorem dX0_agreement_55 : decode cX0_agreement 55 = .ok (.lmul, 1) := by decide +kernel
theorem dX0_agreement_56 : decode cX0_agreement 56 = .ok (.ladd, 1) := by decide +kernel
theorem dX0_agreement_57 : decode cX0_agreement 57 = .ok (.lstore 6, 2) := by decide +kernel
theorem dX0_agreement_59 : decode cX0_agreement 59 = .ok (.iinc 8 1, 3) := by decide +kernel
theorem dX0_agreement_62 : decode cX0_agreement 62 = .ok (.goto (-34), 3) := by decide +kernel
theorem dX0_agreement_65 : decode cX0_agreement 65 = .ok (.lload 6, 2) := by decide +kernel
theorem dX0_agreement_67 : decode cX0_agreement 67 = .ok (.lreturn, 1) := by decide +kernel
theorem dX1_init_0 : decode cX1_init 0 = .ok (.aload_n 0, 1) := by decide +kernel
theorem dX1_init_1 : decode cX1_init 1 = .ok (.invokespecial 1, 3) := by decide +kernel
theorem dX1_init_4 : decode cX1_init 4 = .ok (.aload_n 0, 1) := by decide +kernel
theorem dX1_init_5 : decode cX1_init 5 = .ok (.iconst 1, 1) := by decide +kernel
theorem dX1_init_6 : decode cX1_init 6 = .ok (.putfield 7, 3) := by decide +kernel
theorem dX1_init_9 : decode cX1_init 9 = .ok (.return_, 1) := by decide +kernel
theorem dX1_set_0 : decode cX1_set 0 = .ok (.aload_n 0, 1) := by decide +kernel
theorem dX1_set_1 : decode cX1_set 1 = .ok (.iload_n 1, 1) := by decide +kernel
theorem dX1_set_2 : decode cX1_set 2 = .ok (.putfield 13, 3) := by decide +kernel
theorem dX1_set_5 : decode cX1_set 5 = .ok (.aload_n 0, 1) := by decide +kernel
theorem dX1_set_6 : decode cX1_set 6 = .ok (.iload_n 2, 1) := by decide +kernel
theorem dX1_set_7 : decode cX1_set 7 = .ok (.putfield 7, 3) := by decide +kernel
theorem dX1_set_10 : decode cX1_set 10 = .ok (.return_, 1) := by decide +kernel
theorem dX1_getLoudness_0 : decode cX1_getLoudness 0 = .ok (.aload_n 0, 1) := by decide +kernel
theorem dX1_getLoudness_1 : decode cX1_getLoudness 1 = .ok (.getfield 13, 3) := by decide +kernel
theorem dX1_getLoudness_4 : decode cX1_getLoudness 4 = .ok (.ireturn, 1) := by decide +kernel
theorem dX1_draw_0 : decode cX1_draw 0 = .ok (.aload_n 0, 1) := by decide +kernel
theorem dX1_draw_1 : decode cX1_draw 1 = .ok (.bipush 75, 2) := by decide +kernel
theorem dX1_draw_3 : decode cX1_draw 3 = .ok (.aload_n 0, 1) := by decide +kernel
theorem dX1_draw_4 : decode cX1_draw 4 = .ok (.getfield 7, 3) := by decide +kernel
theorem dX1_draw_7 : decode cX1_draw 7 = .ok (.imul, 1) := by decide +kernel
theorem dX1_draw_8 : decode cX1_draw 8 = .ok (.bipush 74, 2) := by decide +kernel
theorem dX1_draw_10 : decode cX1_draw 10 = .ok (.iadd, 1) := by decide +kernel
theorem dX1_draw_11 : decode cX1_draw 11 = .ok (.ldc 16, 2) := by decide +kernel
theorem dX1_draw_13 : decode cX1_draw 13 = .ok (.irem, 1) := by decide +kernel
theorem dX1_draw_14 : decode cX1_draw 14 = .ok (.putfield 7, 3) := by decide +kernel
theorem dX1_draw_17 : decode cX1_draw 17 = .ok (.iconst 2, 1) := by decide +kernel
theorem dX1_draw_18 : decode cX1_draw 18 = .ok (.aload_n 0, 1) := by decide +kernel
theorem dX1_draw_19 : decode cX1_draw 19 = .ok (.getfield 13, 3) := by decide +kernel
theorem dX1_draw_22 : decode cX1_draw 22 = .ok (.imul, 1) := by decide +kernel
theorem dX1_draw_23 : decode cX1_draw 23 = .ok (.iconst 1, 1) := by decide +kernel
theorem dX1_draw_24 : decode cX1_draw 24 = .ok (.iadd, 1) := by decide +kernel
theorem dX1_draw_25 : decode cX1_draw 25 = .ok (.istore_n 1, 1) := by decide +kernel
theorem dX1_draw_26 : decode cX1_draw 26 = .ok (.iload_n 1, 1) := by decide +kernel
theorem dX1_draw_27 : decode cX1_draw 27 = .ok (.ifCond .le 17, 3) := by decide +kernel
theorem dX1_draw_30 : decode cX1_draw 30 = .ok (.aload_n 0, 1) := by decide +kernel
theorem dX1_draw_31 : decode cX1_draw 31 = .ok (.getfield 7, 3) := by decide +kernel
theorem dX1_draw_34 : decode cX1_draw 34 = .ok (.iload_n 1, 1) := by decide +kernel
theorem dX1_draw_35 : decode cX1_draw 35 = .ok (.irem, 1) := by decide +kernel
theorem dX1_draw_36 : decode cX1_draw 36 = .ok (.aload_n 0, 1) := by decide +kernel
theorem dX1_draw_37 : decode cX1_draw 37 = .ok (.getfield 13, 3) := by decide +kernel
theorem dX1_draw_40 : decode cX1_draw 40 = .ok (.isub, 1) := by decide +kernel
theorem dX1_draw_41 : decode cX1_draw 41 = .ok (.goto 4, 3) := by decide +kernel
theorem dX1_draw_44 : decode cX1_draw 44 = .ok (.iconst 0, 1) := by decide +kernel
theorem dX1_draw_45 : decode cX1_draw 45 = .ok (.ireturn, 1) := by decide +kernel
theorem dX2_init_0 : decode cX2_init 0 = .ok (.aload_n 0, 1) := by decide +kernel
theorem dX2_init_1 : decode cX2_init 1 = .ok (.invokespecial 1, 3) := by decide +kernel
theorem dX2_init_4 : decode cX2_init 4 = .ok (.aload_n 0, 1) := by decide +kernel
theorem dX2_init_5 : decode cX2_init 5 = .ok (.iconst 2, 1) := by decide +kernel
theorem dX2_init_6 : decode cX2_init 6 = .ok (.putfield 7, 3) := by decide +kernel
theorem dX2_init_9 : decode cX2_init 9 = .ok (.return_, 1) := by decide +kernel
theorem dX2_setUp_0 : decode cX2_setUp 0 = .ok (.aload_n 0, 1) := by decide +kernel
theorem dX2_setUp_1 : decode cX2_setUp 1 = .ok (.iload_n 1, 1) := by decide +kernel
theorem dX2_setUp_2 : decode cX2_setUp 2 = .ok (.putfield 13, 3) := by decide +kernel
theorem dX2_setUp_5 : decode cX2_setUp 5 = .ok (.aload_n 0, 1) := by decide +kernel
theorem dX2_setUp_6 : decode cX2_setUp 6 = .ok (.iload_n 2, 1) := by decide +kernel
theorem dX2_setUp_7 : decode cX2_setUp 7 = .ok (.putfield 16, 3) := by decide +kernel
theorem dX2_setUp_10 : decode cX2_setUp 10 = .ok (.aload_n 0, 1) := by decide +kernel
theorem dX2_setUp_11 : decode cX2_setUp 11 = .ok (.iload_n 3, 1) := by decide +kernel
theorem dX2_setUp_12 : decode cX2_setUp 12 = .ok (.putfield 7, 3) := by decide +kernel
theorem dX2_setUp_15 : decode cX2_setUp 15 = .ok (.return_, 1) := by decide +kernel
theorem dX2_getBearing_0 : decode cX2_getBearing 0 = .ok (.aload_n 0, 1) := by decide +kernel
theorem dX2_getBearing_1 : decode cX2_getBearing 1 = .ok (.getfield 13, 3) := by decide +kernel
theorem dX2_getBearing_4 : decode cX2_getBearing 4 = .ok (.ireturn, 1) := by decide +kernel
theorem dX2_waveAt_0 : decode cX2_waveAt 0 = .ok (.aload_n 0, 1) := by decide +kernel
theorem dX2_waveAt_1 : decode cX2_waveAt 1 = .ok (.getfield 7, 3) := by decide +kernel
theorem dX2_waveAt_4 : decode cX2_waveAt 4 = .ok (.ifCond .gt 5, 3) := by decide +kernel
theorem dX2_waveAt_7 : decode cX2_waveAt 7 = .ok (.iconst 0, 1) := by decide +kernel
theorem dX2_waveAt_8 : decode cX2_waveAt 8 = .ok (.ireturn, 1) := by decide +kernel
theorem dX2_waveAt_9 : decode cX2_waveAt 9 = .ok (.iload_n 1, 1) := by decide +kernel
theorem dX2_waveAt_10 : decode cX2_waveAt 10 = .ok (.aload_n 0, 1) := by decide +kernel
theorem dX2_waveAt_11 : decode cX2_waveAt 11 = .ok (.getfield 7, 3) := by decide +kernel
theorem dX2_waveAt_14 : decode cX2_waveAt 14 = .ok (.invokestatic 19, 3) := by decide +kernel
theorem dX2_waveAt_17 : decode cX2_waveAt 17 = .ok (.aload_n 0, 1) := by decide +kernel
theorem dX2_waveAt_18 : decode cX2_waveAt 18 = .ok (.getfield 7, 3) := by decide +kernel
theorem dX2_waveAt_21 : decode cX2_waveAt 21 = .ok (.iconst 2, 1) := by decide +kernel
theorem dX2_waveAt_22 : decode cX2_waveAt 22 = .ok (.idiv, 1) := by decide +kernel
theorem dX2_waveAt_23 : decode cX2_waveAt 23 = .ok (.if_icmp .ge 10, 3) := by decide +kernel
theorem dX2_waveAt_26 : decode cX2_waveAt 26 = .ok (.aload_n 0, 1) := by decide +kernel
theorem dX2_waveAt_27 : decode cX2_waveAt 27 = .ok (.getfield 16, 3) := by decide +kernel
theorem dX2_waveAt_30 : decode cX2_waveAt 30 = .ok (.goto 8, 3) := by decide +kernel
theorem dX2_waveAt_33 : decode cX2_waveAt 33 = .ok (.aload_n 0, 1) := by decide +kernel
theorem dX2_waveAt_34 : decode cX2_waveAt 34 = .ok (.getfield 16, 3) := by decide +kernel
theorem dX2_waveAt_37 : decode cX2_waveAt 37 = .ok (.ineg, 1) := by decide +kernel
theorem dX2_waveAt_38 : decode cX2_waveAt 38 = .ok (.ireturn, 1) := by decide +kernel
theorem dX3_init_0 : decode cX3_init 0 = .ok (.aload_n 0, 1) := by decide +kernel
theorem dX3_init_1 : decode cX3_init 1 = .ok (.invokespecial 3, 3) := by decide +kernel
theorem dX3_init_4 : decode cX3_init 4 = .ok (.aload_n 0, 1) := by decide +kernel
theorem dX3_init_5 : decode cX3_init 5 = .ok (.bipush 64, 2) := by decide +kernel
theorem dX3_init_7 : decode cX3_init 7 = .ok (.newarray .int, 2) := by decide +kernel
theorem dX3_init_9 : decode cX3_init 9 = .ok (.putfield 9, 3) := by decide +kernel
theorem dX3_init_12 : decode cX3_init 12 = .ok (.return_, 1) := by decide +kernel
theorem dX3_beginAt_0 : decode cX3_beginAt 0 = .ok (.aload_n 0, 1) := by decide +kernel
theorem dX3_beginAt_1 : decode cX3_beginAt 1 = .ok (.iload_n 1, 1) := by decide +kernel
theorem dX3_beginAt_2 : decode cX3_beginAt 2 = .ok (.putfield 15, 3) := by decide +kernel
theorem dX3_beginAt_5 : decode cX3_beginAt 5 = .ok (.aload_n 0, 1) := by decide +kernel
theorem dX3_beginAt_6 : decode cX3_beginAt 6 = .ok (.iload_n 1, 1) := by decide +kernel
theorem dX3_beginAt_7 : decode cX3_beginAt 7 = .ok (.putfield 19, 3) := by decide +kernel
theorem dX3_beginAt_10 : decode cX3_beginAt 10 = .ok (.return_, 1) := by decide +kernel
theorem dX3_add_0 : decode cX3_add 0 = .ok (.aload_n 0, 1) := by decide +kernel
theorem dX3_add_1 : decode cX3_add 1 = .ok (.getfield 19, 3) := by decide +kernel
theorem dX3_add_4 : decode cX3_add 4 = .ok (.invokestatic 22, 3) := by decide +kernel
theorem dX3_add_7 : decode cX3_add 7 = .ok (.istore_n 2, 1) := by decide +kernel
theorem dX3_add_8 : decode cX3_add 8 = .ok (.iload_n 2, 1) := by decide +kernel
theorem dX3_add_9 : decode cX3_add 9 = .ok (.aload_n 0, 1) := by decide +kernel
theorem dX3_add_10 : decode cX3_add 10 = .ok (.getfield 9, 3) := by decide +kernel
theorem dX3_add_13 : decode cX3_add 13 = .ok (.arraylength, 1) := by decide +kernel
theorem dX3_add_14 : decode cX3_add 14 = .ok (.if_icmp .ge 10, 3) := by decide +kernel
theorem dX3_add_17 : decode cX3_add 17 = .ok (.aload_n 0, 1) := by decide +kernel
theorem dX3_add_18 : decode cX3_add 18 = .ok (.getfield 9, 3) := by decide +kernel
theorem dX3_add_21 : decode cX3_add 21 = .ok (.iload_n 2, 1) := by decide +kernel
theorem dX3_add_22 : decode cX3_add 22 = .ok (.iload_n 1, 1) := by decide +kernel
theorem dX3_add_23 : decode cX3_add 23 = .ok (.iastore, 1) := by decide +kernel
theorem dX3_add_24 : decode cX3_add 24 = .ok (.aload_n 0, 1) := by decide +kernel
theorem dX3_add_25 : decode cX3_add 25 = .ok (.dup, 1) := by decide +kernel
theorem dX3_add_26 : decode cX3_add 26 = .ok (.getfield 19, 3) := by decide +kernel
theorem dX3_add_29 : decode cX3_add 29 = .ok (.iconst 1, 1) := by decide +kernel
theorem dX3_add_30 : decode cX3_add 30 = .ok (.iadd, 1) := by decide +kernel
theorem dX3_add_31 : decode cX3_add 31 = .ok (.putfield 19, 3) := by decide +kernel
theorem dX3_add_34 : decode cX3_add 34 = .ok (.return_, 1) := by decide +kernel
theorem dX3_at_0 : decode cX3_at 0 = .ok (.aload_n 0, 1) := by decide +kernel
theorem dX3_at_1 : decode cX3_at 1 = .ok (.getfield 19, 3) := by decide +kernel
theorem dX3_at_4 : decode cX3_at 4 = .ok (.bipush 64, 2) := by decide +kernel
theorem dX3_at_6 : decode cX3_at 6 = .ok (.isub, 1) := by decide +kernel
theorem dX3_at_7 : decode cX3_at 7 = .ok (.iload_n 1, 1) := by decide +kernel
theorem dX3_at_8 : decode cX3_at 8 = .ok (.iadd, 1) := by decide +kernel
theorem dX3_at_9 : decode cX3_at 9 = .ok (.invokestatic 22, 3) := by decide +kernel
theorem dX3_at_12 : decode cX3_at 12 = .ok (.istore_n 2, 1) := by decide +kernel
theorem dX3_at_13 : decode cX3_at 13 = .ok (.aload_n 0, 1) := by decide +kernel
theorem dX3_at_14 : decode cX3_at 14 = .ok (.iload_n 1, 1) := by decide +kernel
theorem dX3_at_15 : decode cX3_at 15 = .ok (.invokevirtual 26, 3) := by decide +kernel
theorem dX3_at_18 : decode cX3_at 18 = .ok (.ifCond .eq 21, 3) := by decide +kernel
theorem dX3_at_21 : decode cX3_at 21 = .ok (.iload_n 2, 1) := by decide +kernel
theorem dX3_at_22 : decode cX3_at 22 = .ok (.aload_n 0, 1) := by decide +kernel
theorem dX3_at_23 : decode cX3_at 23 = .ok (.getfield 9, 3) := by decide +kernel
theorem dX3_at_26 : decode cX3_at 26 = .ok (.arraylength, 1) := by decide +kernel
theorem dX3_at_27 : decode cX3_at 27 = .ok (.if_icmp .ge 12, 3) := by decide +kernel
theorem dX3_at_30 : decode cX3_at 30 = .ok (.aload_n 0, 1) := by decide +kernel
theorem dX3_at_31 : decode cX3_at 31 = .ok (.getfield 9, 3) := by decide +kernel
theorem dX3_at_34 : decode cX3_at 34 = .ok (.iload_n 2, 1) := by decide +kernel
theorem dX3_at_35 : decode cX3_at 35 = .ok (.iaload, 1) := by decide +kernel
theorem dX3_at_36 : decode cX3_at 36 = .ok (.goto 4, 3) := by decide +kernel
theorem dX3_at_39 : decode cX3_at 39 = .ok (.iconst 0, 1) := by decide +kernel
theorem dX3_at_40 : decode cX3_at 40 = .ok (.ireturn, 1) := by decide +kernel
theorem dX3_keeps_0 : decode cX3_keeps 0 = .ok (.iload_n 1, 1) := by decide +kernel
theorem dX3_keeps_1 : decode cX3_keeps 1 = .ok (.ifCond .lt 29, 3) := by decide +kernel
theorem dX3_keeps_4 : decode cX3_keeps 4 = .ok (.iload_n 1, 1) := by decide +kernel
theorem dX3_keeps_5 : decode cX3_keeps 5 = .ok (.bipush 64, 2) := by decide +kernel
theorem dX3_keeps_7 : decode cX3_keeps 7 = .ok (.if_icmp .ge 23, 3) := by decide +kernel
theorem dX3_keeps_10 : decode cX3_keeps 10 = .ok (.aload_n 0, 1) := by decide +kernel
theorem dX3_keeps_11 : decode cX3_keeps 11 = .ok (.getfield 19, 3) := by decide +kernel
theorem dX3_keeps_14 : decode cX3_keeps 14 = .ok (.bipush 64, 2) := by decide +kernel
theorem dX3_keeps_16 : decode cX3_keeps 16 = .ok (.isub, 1) := by decide +kernel
theorem dX3_keeps_17 : decode cX3_keeps 17 = .ok (.iload_n 1, 1) := by decide +kernel
theorem dX3_keeps_18 : decode cX3_keeps 18 = .ok (.iadd, 1) := by decide +kernel
theorem dX3_keeps_19 : decode cX3_keeps 19 = .ok (.aload_n 0, 1) := by decide +kernel
theorem dX3_keeps_20 : decode cX3_keeps 20 = .ok (.getfield 15, 3) := by decide +kernel
theorem dX3_keeps_23 : decode cX3_keeps 23 = .ok (.if_icmp .lt 7, 3) := by decide +kernel
theorem dX3_keeps_26 : decode cX3_keeps 26 = .ok (.iconst 1, 1) := by decide +kernel
theorem dX3_keeps_27 : decode cX3_keeps 27 = .ok (.goto 4, 3) := by decide +kernel
theorem dX3_keeps_30 : decode cX3_keeps 30 = .ok (.iconst 0, 1) := by decide +kernel
theorem dX3_keeps_31 : decode cX3_keeps 31 = .ok (.ireturn, 1) := by decide +kernel
theorem dX3_slotOf_0 : decode cX3_slotOf 0 = .ok (.iload_n 0, 1) := by decide +kernel
theorem dX3_slotOf_1 : decode cX3_slotOf 1 = .ok (.bipush 63, 2) := by decide +kernel
theorem dX3_slotOf_3 : decode cX3_slotOf 3 = .ok (.iand, 1) := by decide +kernel
theorem dX3_slotOf_4 : decode cX3_slotOf 4 = .ok (.ireturn, 1) := by decide +kernel
theorem dX4_init_0 : decode cX4_init 0 = .ok (.aload_n 0, 1) := by decide +kernel
theorem dX4_init_1 : decode cX4_init 1 = .ok (.invokespecial 3, 3) := by decide +kernel
theorem dX4_init_4 : decode cX4_init 4 = .ok (.aload_n 0, 1) := by decide +kernel
theorem dX4_init_5 : decode cX4_init 5 = .ok (.bipush 8, 2) := by decide +kernel
theorem dX4_init_7 : decode cX4_init 7 = .ok (.anewarray 9, 3) := by decide +kernel
theorem dX4_init_10 : decode cX4_init 10 = .ok (.putfield 11, 3) := by decide +kernel
theorem dX4_init_13 : decode cX4_init 13 = .ok (.aload_n 0, 1) := by decide +kernel
theorem dX4_init_14 : decode cX4_init 14 = .ok (.iconst 4, 1) := by decide +kernel
theorem dX4_init_15 : decode cX4_init 15 = .ok (.anewarray 15, 3) := by decide +kernel
theorem dX4_init_18 : decode cX4_init 18 = .ok (.putfield 17, 3) := by decide +kernel
theorem dX4_init_21 : decode cX4_init 21 = .ok (.aload_n 0, 1) := by decide +kernel
theorem dX4_init_22 : decode cX4_init 22 = .ok (.new 21, 3) := by decide +kernel
theorem dX4_init_25 : decode cX4_init 25 = .ok (.dup, 1) := by decide +kernel
theorem dX4_init_26 : decode cX4_init 26 = .ok (.invokespecial 23, 3) := by decide +kernel
theorem dX4_init_29 : decode cX4_init 29 = .ok (.putfield 24, 3) := by decide +kernel
theorem dX4_init_32 : decode cX4_init 32 = .ok (.aload_n 0, 1) := by decide +kernel
theorem dX4_init_33 : decode cX4_init 33 = .ok (.bipush 32, 2) := by decide +kernel
theorem dX4_init_35 : decode cX4_init 35 = .ok (.newarray .long, 2) := by decide +kernel
theorem dX4_init_37 : decode cX4_init 37 = .ok (.putfield 28, 3) := by decide +kernel
theorem dX4_init_40 : decode cX4_init 40 = .ok (.aload_n 0, 1) := by decide +kernel
theorem dX4_init_41 : decode cX4_init 41 = .ok (.bipush 9, 2) := by decide +kernel
theorem dX4_init_43 : decode cX4_init 43 = .ok (.newarray .long, 2) := by decide +kernel
theorem dX4_init_45 : decode cX4_init 45 = .ok (.putfield 32, 3) := by decide +kernel
theorem dX4_init_48 : decode cX4_init 48 = .ok (.iconst 0, 1) := by decide +kernel
theorem dX4_init_49 : decode cX4_init 49 = .ok (.istore_n 1, 1) := by decide +kernel
theorem dX4_init_50 : decode cX4_init 50 = .ok (.iload_n 1, 1) := by decide +kernel
theorem dX4_init_51 : decode cX4_init 51 = .ok (.aload_n 0, 1) := by decide +kernel
theorem dX4_init_52 : decode cX4_init 52 = .ok (.getfield 11, 3) := by decide +kernel
theorem dX4_init_55 : decode cX4_init 55 = .ok (.arraylength, 1) := by decide +kernel
theorem dX4_init_56 : decode cX4_init 56 = .ok (.if_icmp .ge 22, 3) := by decide +kernel
theorem dX4_init_59 : decode cX4_init 59 = .ok (.aload_n 0, 1) := by decide +kernel
theorem dX4_init_60 : decode cX4_init 60 = .ok (.getfield 11, 3) := by decide +kernel
theorem dX4_init_63 : decode cX4_init 63 = .ok (.iload_n 1, 1) := by decide +kernel
theorem dX4_init_64 : decode cX4_init 64 = .ok (.new 9, 3) := by decide +kernel
theorem dX4_init_67 : decode cX4_init 67 = .ok (.dup, 1) := by decide +kernel
theorem dX4_init_68 : decode cX4_init 68 = .ok (.invokespecial 35, 3) := by decide +kernel
theorem dX4_init_71 : decode cX4_init 71 = .ok (.aastore, 1) := by decide +kernel
theorem dX4_init_72 : decode cX4_init 72 = .ok (.iinc 1 1, 3) := by decide +kernel
theorem dX4_init_75 : decode cX4_init 75 = .ok (.goto (-25), 3) := by decide +kernel
theorem dX4_init_78 : decode cX4_init 78 = .ok (.iconst 0, 1) := by decide +kernel
theorem dX4_init_79 : decode cX4_init 79 = .ok (.istore_n 1, 1) := by decide +kernel
theorem dX4_init_80 : decode cX4_init 80 = .ok (.iload_n 1, 1) := by decide +kernel
theorem dX4_init_81 : decode cX4_init 81 = .ok (.aload_n 0, 1) := by decide +kernel
theorem dX4_init_82 : decode cX4_init 82 = .ok (.getfield 17, 3) := by decide +kernel
theorem dX4_init_85 : decode cX4_init 85 = .ok (.arraylength, 1) := by decide +kernel
theorem dX4_init_86 : decode cX4_init 86 = .ok (.if_icmp .ge 22, 3) := by decide +kernel
theorem dX4_init_89 : decode cX4_init 89 = .ok (.aload_n 0, 1) := by decide +kernel
theorem dX4_init_90 : decode cX4_init 90 = .ok (.getfield 17, 3) := by decide +kernel
theorem dX4_init_93 : decode cX4_init 93 = .ok (.iload_n 1, 1) := by decide +kernel
theorem dX4_init_94 : decode cX4_init 94 = .ok (.new 15, 3) := by decide +kernel
theorem dX4_init_97 : decode cX4_init 97 = .ok (.dup, 1) := by decide +kernel
theorem dX4_init_98 : decode cX4_init 98 = .ok (.invokespecial 36, 3) := by decide +kernel
theorem dX4_init_101 : decode cX4_init 101 = .ok (.aastore, 1) := by decide +kernel
theorem dX4_init_102 : decode cX4_init 102 = .ok (.iinc 1 1, 3) := by decide +kernel
theorem dX4_init_105 : decode cX4_init 105 = .ok (.goto (-25), 3) := by decide +kernel
theorem dX4_init_108 : decode cX4_init 108 = .ok (.aload_n 0, 1) := by decide +kernel
theorem dX4_init_109 : decode cX4_init 109 = .ok (.iconst 0, 1) := by decide +kernel
theorem dX4_init_110 : decode cX4_init 110 = .ok (.putfield 37, 3) := by decide +kernel
theorem dX4_init_113 : decode cX4_init 113 = .ok (.return_, 1) := by decide +kernel
theorem dX4_element_0 : decode cX4_element 0 = .ok (.iload_n 1, 1) := by decide +kernel
theorem dX4_element_1 : decode cX4_element 1 = .ok (.iconst 0, 1) := by decide +kernel
theorem dX4_element_2 : decode cX4_element 2 = .ok (.bipush 12, 2) := by decide +kernel
theorem dX4_element_4 : decode cX4_element 4 = .ok (.invokestatic 41, 3) := by decide +kernel
theorem dX4_element_7 : decode cX4_element 7 = .ok (.ifCond .eq 24, 3) := by decide +kernel
theorem dX4_element_10 : decode cX4_element 10 = .ok (.iload_n 2, 1) := by decide +kernel
theorem dX4_element_11 : decode cX4_element 11 = .ok (.bipush 32, 2) := by decide +kernel
theorem dX4_element_13 : decode cX4_element 13 = .ok (.bipush 96, 2) := by decide +kernel
theorem dX4_element_15 : decode cX4_element 15 = .ok (.invokestatic 41, 3) := by decide +kernel
theorem dX4_element_18 : decode cX4_element 18 = .ok (.ifCond .eq 13, 3) := by decide +kernel
theorem dX4_element_21 : decode cX4_element 21 = .ok (.iload_n 3, 1) := by decide +kernel
theorem dX4_element_22 : decode cX4_element 22 = .ok (.bipush (-3), 2) := by decide +kernel
theorem dX4_element_24 : decode cX4_element 24 = .ok (.iconst 3, 1) := by decide +kernel
theorem dX4_element_25 : decode cX4_element 25 = .ok (.invokestatic 41, 3) := by decide +kernel
theorem dX4_element_28 : decode cX4_element 28 = .ok (.ifCond .ne 13, 3) := by decide +kernel
theorem dX4_element_31 : decode cX4_element 31 = .ok (.new 45, 3) := by decide +kernel
theorem dX4_element_34 : decode cX4_element 34 = .ok (.dup, 1) := by decide +kernel
theorem dX4_element_35 : decode cX4_element 35 = .ok (.ldc 47, 2) := by decide +kernel
theorem dX4_element_37 : decode cX4_element 37 = .ok (.invokespecial 49, 3) := by decide +kernel
theorem dX4_element_40 : decode cX4_element 40 = .ok (.athrow, 1) := by decide +kernel
theorem dX4_element_41 : decode cX4_element 41 = .ok (.aload_n 0, 1) := by decide +kernel
theorem dX4_element_42 : decode cX4_element 42 = .ok (.getfield 52, 3) := by decide +kernel
theorem dX4_element_45 : decode cX4_element 45 = .ok (.istore 4, 2) := by decide +kernel
theorem dX4_element_47 : decode cX4_element 47 = .ok (.iload 4, 2) := by decide +kernel
theorem dX4_element_49 : decode cX4_element 49 = .ok (.ifCond .lt 13, 3) := by decide +kernel
theorem dX4_element_52 : decode cX4_element 52 = .ok (.iload 4, 2) := by decide +kernel
theorem dX4_element_54 : decode cX4_element 54 = .ok (.aload_n 0, 1) := by decide +kernel
theorem dX4_element_55 : decode cX4_element 55 = .ok (.getfield 11, 3) := by decide +kernel
theorem dX4_element_58 : decode cX4_element 58 = .ok (.arraylength, 1) := by decide +kernel
theorem dX4_element_59 : decode cX4_element 59 = .ok (.if_icmp .lt 13, 3) := by decide +kernel
theorem dX4_element_62 : decode cX4_element 62 = .ok (.new 55, 3) := by decide +kernel
theorem dX4_element_65 : decode cX4_element 65 = .ok (.dup, 1) := by decide +kernel
theorem dX4_element_66 : decode cX4_element 66 = .ok (.ldc 57, 2) := by decide +kernel
theorem dX4_element_68 : decode cX4_element 68 = .ok (.invokespecial 59, 3) := by decide +kernel
theorem dX4_element_71 : decode cX4_element 71 = .ok (.athrow, 1) := by decide +kernel
theorem dX4_element_72 : decode cX4_element 72 = .ok (.aload_n 0, 1) := by decide +kernel
theorem dX4_element_73 : decode cX4_element 73 = .ok (.getfield 11, 3) := by decide +kernel
theorem dX4_element_76 : decode cX4_element 76 = .ok (.iload 4, 2) := by decide +kernel
theorem dX4_element_78 : decode cX4_element 78 = .ok (.aaload, 1) := by decide +kernel
theorem dX4_element_79 : decode cX4_element 79 = .ok (.iload_n 1, 1) := by decide +kernel
theorem dX4_element_80 : decode cX4_element 80 = .ok (.iload_n 2, 1) := by decide +kernel
theorem dX4_element_81 : decode cX4_element 81 = .ok (.iload_n 3, 1) := by decide +kernel
theorem dX4_element_82 : decode cX4_element 82 = .ok (.aload_n 0, 1) := by decide +kernel
theorem dX4_element_83 : decode cX4_element 83 = .ok (.getfield 60, 3) := by decide +kernel
theorem dX4_element_86 : decode cX4_element 86 = .ok (.invokevirtual 63, 3) := by decide +kernel
theorem dX4_element_89 : decode cX4_element 89 = .ok (.aload_n 0, 1) := by decide +kernel
theorem dX4_element_90 : decode cX4_element 90 = .ok (.iload 4, 2) := by decide +kernel
theorem dX4_element_92 : decode cX4_element 92 = .ok (.iconst 1, 1) := by decide +kernel
theorem dX4_element_93 : decode cX4_element 93 = .ok (.iadd, 1) := by decide +kernel
theorem dX4_element_94 : decode cX4_element 94 = .ok (.putfield 52, 3) := by decide +kernel
theorem dX4_element_97 : decode cX4_element 97 = .ok (.iload 4, 2) := by decide +kernel
theorem dX4_element_99 : decode cX4_element 99 = .ok (.ireturn, 1) := by decide +kernel
theorem dX4_alive_0 : decode cX4_alive 0 = .ok (.aload_n 0, 1) := by decide +kernel
theorem dX4_alive_1 : decode cX4_alive 1 = .ok (.iload_n 1, 1) := by decide +kernel
theorem dX4_alive_2 : decode cX4_alive 2 = .ok (.invokevirtual 67, 3) := by decide +kernel
theorem dX4_alive_5 : decode cX4_alive 5 = .ok (.ifCond .ne 13, 3) := by decide +kernel
theorem dX4_alive_8 : decode cX4_alive 8 = .ok (.new 71, 3) := by decide +kernel
theorem dX4_alive_11 : decode cX4_alive 11 = .ok (.dup, 1) := by decide +kernel
theorem dX4_alive_12 : decode cX4_alive 12 = .ok (.ldc 73, 2) := by decide +kernel
theorem dX4_alive_14 : decode cX4_alive 14 = .ok (.invokespecial 75, 3) := by decide +kernel
theorem dX4_alive_17 : decode cX4_alive 17 = .ok (.athrow, 1) := by decide +kernel
theorem dX4_alive_18 : decode cX4_alive 18 = .ok (.aload_n 0, 1) := by decide +kernel
theorem dX4_alive_19 : decode cX4_alive 19 = .ok (.getfield 11, 3) := by decide +kernel
theorem dX4_alive_22 : decode cX4_alive 22 = .ok (.iload_n 1, 1) := by decide +kernel
theorem dX4_alive_23 : decode cX4_alive 23 = .ok (.aaload, 1) := by decide +kernel
theorem dX4_alive_24 : decode cX4_alive 24 = .ok (.invokevirtual 76, 3) := by decide +kernel
theorem dX4_alive_27 : decode cX4_alive 27 = .ok (.istore_n 3, 1) := by decide +kernel
theorem dX4_alive_28 : decode cX4_alive 28 = .ok (.aload_n 0, 1) := by decide +kernel
theorem dX4_alive_29 : decode cX4_alive 29 = .ok (.getfield 11, 3) := by decide +kernel
theorem dX4_alive_32 : decode cX4_alive 32 = .ok (.iload_n 1, 1) := by decide +kernel
theorem dX4_alive_33 : decode cX4_alive 33 = .ok (.aaload, 1) := by decide +kernel
theorem dX4_alive_34 : decode cX4_alive 34 = .ok (.iload_n 2, 1) := by decide +kernel
theorem dX4_alive_35 : decode cX4_alive 35 = .ok (.invokevirtual 80, 3) := by decide +kernel
theorem dX4_alive_38 : decode cX4_alive 38 = .ok (.iload_n 3, 1) := by decide +kernel
theorem dX4_alive_39 : decode cX4_alive 39 = .ok (.ireturn, 1) := by decide +kernel
theorem dX4_source_0 : decode cX4_source 0 = .ok (.iload_n 1, 1) := by decide +kernel
theorem dX4_source_1 : decode cX4_source 1 = .ok (.invokestatic 84, 3) := by decide +kernel
theorem dX4_source_4 : decode cX4_source 4 = .ok (.ifCond .ne 13, 3) := by decide +kernel
theorem dX4_source_7 : decode cX4_source 7 = .ok (.new 71, 3) := by decide +kernel
theorem dX4_source_10 : decode cX4_source 10 = .ok (.dup, 1) := by decide +kernel
theorem dX4_source_11 : decode cX4_source 11 = .ok (.ldc 87, 2) := by decide +kernel
theorem dX4_source_13 : decode cX4_source 13 = .ok (.invokespecial 75, 3) := by decide +kernel
theorem dX4_source_16 : decode cX4_source 16 = .ok (.athrow, 1) := by decide +kernel
theorem dX4_source_17 : decode cX4_source 17 = .ok (.iload_n 2, 1) := by decide +kernel
theorem dX4_source_18 : decode cX4_source 18 = .ok (.iconst 1, 1) := by decide +kernel
theorem dX4_source_19 : decode cX4_source 19 = .ok (.bipush 100, 2) := by decide +kernel
theorem dX4_source_21 : decode cX4_source 21 = .ok (.invokestatic 41, 3) := by decide +kernel
theorem dX4_source_24 : decode cX4_source 24 = .ok (.ifCond .eq 13, 3) := by decide +kernel
theorem dX4_source_27 : decode cX4_source 27 = .ok (.iload_n 3, 1) := by decide +kernel
theorem dX4_source_28 : decode cX4_source 28 = .ok (.iconst 2, 1) := by decide +kernel
theorem dX4_source_29 : decode cX4_source 29 = .ok (.bipush 16, 2) := by decide +kernel
theorem dX4_source_31 : decode cX4_source 31 = .ok (.invokestatic 41, 3) := by decide +kernel
theorem dX4_source_34 : decode cX4_source 34 = .ok (.ifCond .ne 13, 3) := by decide +kernel
theorem dX4_source_37 : decode cX4_source 37 = .ok (.new 45, 3) := by decide +kernel
theorem dX4_source_40 : decode cX4_source 40 = .ok (.dup, 1) := by decide +kernel
theorem dX4_source_41 : decode cX4_source 41 = .ok (.ldc 89, 2) := by decide +kernel
theorem dX4_source_43 : decode cX4_source 43 = .ok (.invokespecial 49, 3) := by decide +kernel
theorem dX4_source_46 : decode cX4_source 46 = .ok (.athrow, 1) := by decide +kernel
theorem dX4_source_47 : decode cX4_source 47 = .ok (.aload_n 0, 1) := by decide +kernel
theorem dX4_source_48 : decode cX4_source 48 = .ok (.getfield 91, 3) := by decide +kernel
theorem dX4_source_51 : decode cX4_source 51 = .ok (.istore 4, 2) := by decide +kernel
theorem dX4_source_53 : decode cX4_source 53 = .ok (.iload 4, 2) := by decide +kernel
theorem dX4_source_55 : decode cX4_source 55 = .ok (.ifCond .lt 13, 3) := by decide +kernel
theorem dX4_source_58 : decode cX4_source 58 = .ok (.iload 4, 2) := by decide +kernel
theorem dX4_source_60 : decode cX4_source 60 = .ok (.aload_n 0, 1) := by decide +kernel
theorem dX4_source_61 : decode cX4_source 61 = .ok (.getfield 17, 3) := by decide +kernel
theorem dX4_source_64 : decode cX4_source 64 = .ok (.arraylength, 1) := by decide +kernel
theorem dX4_source_65 : decode cX4_source 65 = .ok (.if_icmp .lt 13, 3) := by decide +kernel
theorem dX4_source_68 : decode cX4_source 68 = .ok (.new 55, 3) := by decide +kernel
theorem dX4_source_71 : decode cX4_source 71 = .ok (.dup, 1) := by decide +kernel
theorem dX4_source_72 : decode cX4_source 72 = .ok (.ldc 94, 2) := by decide +kernel
theorem dX4_source_74 : decode cX4_source 74 = .ok (.invokespecial 59, 3) := by decide +kernel
theorem dX4_source_77 : decode cX4_source 77 = .ok (.athrow, 1) := by decide +kernel
theorem dX4_source_78 : decode cX4_source 78 = .ok (.aload_n 0, 1) := by decide +kernel
theorem dX4_source_79 : decode cX4_source 79 = .ok (.getfield 17, 3) := by decide +kernel
theorem dX4_source_82 : decode cX4_source 82 = .ok (.iload 4, 2) := by decide +kernel
theorem dX4_source_84 : decode cX4_source 84 = .ok (.aaload, 1) := by decide +kernel
theorem dX4_source_85 : decode cX4_source 85 = .ok (.iload_n 1, 1) := by decide +kernel
theorem dX4_source_86 : decode cX4_source 86 = .ok (.iload_n 2, 1) := by decide +kernel
theorem dX4_source_87 : decode cX4_source 87 = .ok (.iload_n 3, 1) := by decide +kernel
theorem dX4_source_88 : decode cX4_source 88 = .ok (.invokevirtual 96, 3) := by decide +kernel
theorem dX4_source_91 : decode cX4_source 91 = .ok (.aload_n 0, 1) := by decide +kernel
theorem dX4_source_92 : decode cX4_source 92 = .ok (.iload 4, 2) := by decide +kernel
theorem dX4_source_94 : decode cX4_source 94 = .ok (.iconst 1, 1) := by decide +kernel
theorem dX4_source_95 : decode cX4_source 95 = .ok (.iadd, 1) := by decide +kernel
theorem dX4_source_96 : decode cX4_source 96 = .ok (.putfield 91, 3) := by decide +kernel
theorem dX4_source_99 : decode cX4_source 99 = .ok (.iload 4, 2) := by decide +kernel
theorem dX4_source_101 : decode cX4_source 101 = .ok (.ireturn, 1) := by decide +kernel
theorem dX4_silence_0 : decode cX4_silence 0 = .ok (.aload_n 0, 1) := by decide +kernel
theorem dX4_silence_1 : decode cX4_silence 1 = .ok (.getfield 91, 3) := by decide +kernel
theorem dX4_silence_4 : decode cX4_silence 4 = .ok (.istore_n 1, 1) := by decide +kernel
theorem dX4_silence_5 : decode cX4_silence 5 = .ok (.aload_n 0, 1) := by decide +kernel
theorem dX4_silence_6 : decode cX4_silence 6 = .ok (.iconst 0, 1) := by decide +kernel
theorem dX4_silence_7 : decode cX4_silence 7 = .ok (.putfield 91, 3) := by decide +kernel
theorem dX4_silence_10 : decode cX4_silence 10 = .ok (.iload_n 1, 1) := by decide +kernel
theorem dX4_silence_11 : decode cX4_silence 11 = .ok (.ireturn, 1) := by decide +kernel
theorem dX4_noise_0 : decode cX4_noise 0 = .ok (.iload_n 1, 1) := by decide +kernel
theorem dX4_noise_1 : decode cX4_noise 1 = .ok (.iconst 0, 1) := by decide +kernel
theorem dX4_noise_2 : decode cX4_noise 2 = .ok (.bipush 50, 2) := by decide +kernel
theorem dX4_noise_4 : decode cX4_noise 4 = .ok (.invokestatic 41, 3) := by decide +kernel
theorem dX4_noise_7 : decode cX4_noise 7 = .ok (.ifCond .eq 13, 3) := by decide +kernel
theorem dX4_noise_10 : decode cX4_noise 10 = .ok (.iload_n 2, 1) := by decide +kernel
theorem dX4_noise_11 : decode cX4_noise 11 = .ok (.iconst 1, 1) := by decide +kernel
theorem dX4_noise_12 : decode cX4_noise 12 = .ok (.ldc 100, 2) := by decide +kernel
theorem dX4_noise_14 : decode cX4_noise 14 = .ok (.invokestatic 41, 3) := by decide +kernel
theorem dX4_noise_17 : decode cX4_noise 17 = .ok (.ifCond .ne 13, 3) := by decide +kernel
theorem dX4_noise_20 : decode cX4_noise 20 = .ok (.new 45, 3) := by decide +kernel
theorem dX4_noise_23 : decode cX4_noise 23 = .ok (.dup, 1) := by decide +kernel
theorem dX4_noise_24 : decode cX4_noise 24 = .ok (.ldc 101, 2) := by decide +kernel
theorem dX4_noise_26 : decode cX4_noise 26 = .ok (.invokespecial 49, 3) := by decide +kernel
theorem dX4_noise_29 : decode cX4_noise 29 = .ok (.athrow, 1) := by decide +kernel
theorem dX4_noise_30 : decode cX4_noise 30 = .ok (.aload_n 0, 1) := by decide +kernel
theorem dX4_noise_31 : decode cX4_noise 31 = .ok (.getfield 24, 3) := by decide +kernel
theorem dX4_noise_34 : decode cX4_noise 34 = .ok (.invokevirtual 103, 3) := by decide +kernel
theorem dX4_noise_37 : decode cX4_noise 37 = .ok (.istore_n 3, 1) := by decide +kernel
theorem dX4_noise_38 : decode cX4_noise 38 = .ok (.aload_n 0, 1) := by decide +kernel
theorem dX4_noise_39 : decode cX4_noise 39 = .ok (.getfield 24, 3) := by decide +kernel
theorem dX4_noise_42 : decode cX4_noise 42 = .ok (.iload_n 1, 1) := by decide +kernel
theorem dX4_noise_43 : decode cX4_noise 43 = .ok (.iload_n 2, 1) := by decide +kernel
theorem dX4_noise_44 : decode cX4_noise 44 = .ok (.invokevirtual 107, 3) := by decide +kernel
theorem dX4_noise_47 : decode cX4_noise 47 = .ok (.iload_n 3, 1) := by decide +kernel
theorem dX4_noise_48 : decode cX4_noise 48 = .ok (.ireturn, 1) := by decide +kernel
theorem dX4_hear_0 : decode cX4_hear 0 = .ok (.iload_n 1, 1) := by decide +kernel
theorem dX4_hear_1 : decode cX4_hear 1 = .ok (.iconst 1, 1) := by decide +kernel
theorem dX4_hear_2 : decode cX4_hear 2 = .ok (.bipush 100, 2) := by decide +kernel
theorem dX4_hear_4 : decode cX4_hear 4 = .ok (.invokestatic 41, 3) := by decide +kernel
theorem dX4_hear_7 : decode cX4_hear 7 = .ok (.ifCond .ne 13, 3) := by decide +kernel
theorem dX4_hear_10 : decode cX4_hear 10 = .ok (.new 45, 3) := by decide +kernel
theorem dX4_hear_13 : decode cX4_hear 13 = .ok (.dup, 1) := by decide +kernel
theorem dX4_hear_14 : decode cX4_hear 14 = .ok (.ldc 111, 2) := by decide +kernel
theorem dX4_hear_16 : decode cX4_hear 16 = .ok (.invokespecial 49, 3) := by decide +kernel
theorem dX4_hear_19 : decode cX4_hear 19 = .ok (.athrow, 1) := by decide +kernel
theorem dX4_hear_20 : decode cX4_hear 20 = .ok (.iconst 0, 1) := by decide +kernel
theorem dX4_hear_21 : decode cX4_hear 21 = .ok (.istore_n 2, 1) := by decide +kernel
theorem dX4_hear_22 : decode cX4_hear 22 = .ok (.iload_n 2, 1) := by decide +kernel
theorem dX4_hear_23 : decode cX4_hear 23 = .ok (.iload_n 1, 1) := by decide +kernel
theorem dX4_hear_24 : decode cX4_hear 24 = .ok (.if_icmp .ge 13, 3) := by decide +kernel
theorem dX4_hear_27 : decode cX4_hear 27 = .ok (.aload_n 0, 1) := by decide +kernel
theorem dX4_hear_28 : decode cX4_hear 28 = .ok (.invokevirtual 113, 3) := by decide +kernel
theorem dX4_hear_31 : decode cX4_hear 31 = .ok (.iinc 2 1, 3) := by decide +kernel
theorem dX4_hear_34 : decode cX4_hear 34 = .ok (.goto (-12), 3) := by decide +kernel
theorem dX4_hear_37 : decode cX4_hear 37 = .ok (.aload_n 0, 1) := by decide +kernel
theorem dX4_hear_38 : decode cX4_hear 38 = .ok (.getfield 60, 3) := by decide +kernel
theorem dX4_hear_41 : decode cX4_hear 41 = .ok (.ireturn, 1) := by decide +kernel
theorem dX4_window_0 : decode cX4_window 0 = .ok (.iload_n 1, 1) := by decide +kernel
theorem dX4_window_1 : decode cX4_window 1 = .ok (.iconst 0, 1) := by decide +kernel
theorem dX4_window_2 : decode cX4_window 2 = .ok (.iconst 2, 1) := by decide +kernel
theorem dX4_window_3 : decode cX4_window 3 = .ok (.invokestatic 41, 3) := by decide +kernel
theorem dX4_window_6 : decode cX4_window 6 = .ok (.ifCond .ne 13, 3) := by decide +kernel
theorem dX4_window_9 : decode cX4_window 9 = .ok (.new 45, 3) := by decide +kernel
theorem dX4_window_12 : decode cX4_window 12 = .ok (.dup, 1) := by decide +kernel
theorem dX4_window_13 : decode cX4_window 13 = .ok (.ldc 116, 2) := by decide +kernel
theorem dX4_window_15 : decode cX4_window 15 = .ok (.invokespecial 49, 3) := by decide +kernel
theorem dX4_window_18 : decode cX4_window 18 = .ok (.athrow, 1) := by decide +kernel
theorem dX4_window_19 : decode cX4_window 19 = .ok (.aload_n 0, 1) := by decide +kernel
