theorem d_X0_init_0 : decode b_X0_init 0 = .ok (.aload_n 0, 1) := by decide +kernel
theorem d_X0_init_1 : decode b_X0_init 1 = .ok (.invokespecial 3, 3) := by decide +kernel
theorem d_X0_init_4 : decode b_X0_init 4 = .ok (.aload_n 0, 1) := by decide +kernel
theorem d_X0_init_5 : decode b_X0_init 5 = .ok (.iconst 1, 1) := by decide +kernel
theorem d_X0_init_6 : decode b_X0_init 6 = .ok (.newarray .int, 2) := by decide +kernel
theorem d_X0_init_8 : decode b_X0_init 8 = .ok (.putfield 9, 3) := by decide +kernel
theorem d_X0_init_11 : decode b_X0_init 11 = .ok (.aload_n 0, 1) := by decide +kernel
theorem d_X0_init_12 : decode b_X0_init 12 = .ok (.iconst 1, 1) := by decide +kernel
theorem d_X0_init_13 : decode b_X0_init 13 = .ok (.putfield 15, 3) := by decide +kernel
theorem d_X0_init_16 : decode b_X0_init 16 = .ok (.return_, 1) := by decide +kernel
theorem d_X0_changeWidth_0 : decode b_X0_changeWidth 0 = .ok (.aload_n 0, 1) := by decide +kernel
theorem d_X0_changeWidth_1 : decode b_X0_changeWidth 1 = .ok (.iload_n 1, 1) := by decide +kernel
theorem d_X0_changeWidth_2 : decode b_X0_changeWidth 2 = .ok (.invokevirtual 25, 3) := by decide +kernel
theorem d_X0_changeWidth_5 : decode b_X0_changeWidth 5 = .ok (.istore_n 2, 1) := by decide +kernel
theorem d_X0_changeWidth_6 : decode b_X0_changeWidth 6 = .ok (.aload_n 0, 1) := by decide +kernel
theorem d_X0_changeWidth_7 : decode b_X0_changeWidth 7 = .ok (.aload_n 0, 1) := by decide +kernel
theorem d_X0_changeWidth_8 : decode b_X0_changeWidth 8 = .ok (.getfield 15, 3) := by decide +kernel
theorem d_X0_changeWidth_11 : decode b_X0_changeWidth 11 = .ok (.invokevirtual 21, 3) := by decide +kernel
theorem d_X0_changeWidth_14 : decode b_X0_changeWidth 14 = .ok (.istore_n 3, 1) := by decide +kernel
theorem d_X0_changeWidth_15 : decode b_X0_changeWidth 15 = .ok (.iload_n 1, 1) := by decide +kernel
theorem d_X0_changeWidth_16 : decode b_X0_changeWidth 16 = .ok (.aload_n 0, 1) := by decide +kernel
theorem d_X0_changeWidth_17 : decode b_X0_changeWidth 17 = .ok (.getfield 9, 3) := by decide +kernel
theorem d_X0_changeWidth_20 : decode b_X0_changeWidth 20 = .ok (.arraylength, 1) := by decide +kernel
theorem d_X0_changeWidth_21 : decode b_X0_changeWidth 21 = .ok (.if_icmp .le 17, 3) := by decide +kernel
theorem d_X0_changeWidth_24 : decode b_X0_changeWidth 24 = .ok (.aload_n 0, 1) := by decide +kernel
theorem d_X0_changeWidth_25 : decode b_X0_changeWidth 25 = .ok (.aload_n 0, 1) := by decide +kernel
theorem d_X0_changeWidth_26 : decode b_X0_changeWidth 26 = .ok (.getfield 9, 3) := by decide +kernel
theorem d_X0_changeWidth_29 : decode b_X0_changeWidth 29 = .ok (.sipush 256, 3) := by decide +kernel
theorem d_X0_changeWidth_32 : decode b_X0_changeWidth 32 = .ok (.invokestatic 29, 3) := by decide +kernel
theorem d_X0_changeWidth_35 : decode b_X0_changeWidth 35 = .ok (.putfield 9, 3) := by decide +kernel
theorem d_X0_changeWidth_38 : decode b_X0_changeWidth 38 = .ok (.aload_n 0, 1) := by decide +kernel
theorem d_X0_changeWidth_39 : decode b_X0_changeWidth 39 = .ok (.getfield 15, 3) := by decide +kernel
theorem d_X0_changeWidth_42 : decode b_X0_changeWidth 42 = .ok (.istore 4, 2) := by decide +kernel
theorem d_X0_changeWidth_44 : decode b_X0_changeWidth 44 = .ok (.iload 4, 2) := by decide +kernel
theorem d_X0_changeWidth_46 : decode b_X0_changeWidth 46 = .ok (.iload_n 1, 1) := by decide +kernel
theorem d_X0_changeWidth_47 : decode b_X0_changeWidth 47 = .ok (.if_icmp .ge 17, 3) := by decide +kernel
theorem d_X0_changeWidth_50 : decode b_X0_changeWidth 50 = .ok (.aload_n 0, 1) := by decide +kernel
theorem d_X0_changeWidth_51 : decode b_X0_changeWidth 51 = .ok (.getfield 9, 3) := by decide +kernel
theorem d_X0_changeWidth_54 : decode b_X0_changeWidth 54 = .ok (.iload 4, 2) := by decide +kernel
theorem d_X0_changeWidth_56 : decode b_X0_changeWidth 56 = .ok (.iload_n 3, 1) := by decide +kernel
theorem d_X0_changeWidth_57 : decode b_X0_changeWidth 57 = .ok (.iastore, 1) := by decide +kernel
theorem d_X0_changeWidth_58 : decode b_X0_changeWidth 58 = .ok (.iinc 4 1, 3) := by decide +kernel
theorem d_X0_changeWidth_61 : decode b_X0_changeWidth 61 = .ok (.goto (-17), 3) := by decide +kernel
theorem d_X0_changeWidth_64 : decode b_X0_changeWidth 64 = .ok (.aload_n 0, 1) := by decide +kernel
theorem d_X0_changeWidth_65 : decode b_X0_changeWidth 65 = .ok (.iload_n 1, 1) := by decide +kernel
theorem d_X0_changeWidth_66 : decode b_X0_changeWidth 66 = .ok (.putfield 15, 3) := by decide +kernel
theorem d_X0_changeWidth_69 : decode b_X0_changeWidth 69 = .ok (.iload_n 2, 1) := by decide +kernel
theorem d_X0_changeWidth_70 : decode b_X0_changeWidth 70 = .ok (.ireturn, 1) := by decide +kernel
theorem d_X0_fitsIn_0 : decode b_X0_fitsIn 0 = .ok (.aload_n 0, 1) := by decide +kernel
theorem d_X0_fitsIn_1 : decode b_X0_fitsIn 1 = .ok (.iload_n 1, 1) := by decide +kernel
theorem d_X0_fitsIn_2 : decode b_X0_fitsIn 2 = .ok (.iconst 1, 1) := by decide +kernel
theorem d_X0_fitsIn_3 : decode b_X0_fitsIn 3 = .ok (.isub, 1) := by decide +kernel
theorem d_X0_fitsIn_4 : decode b_X0_fitsIn 4 = .ok (.invokevirtual 21, 3) := by decide +kernel
theorem d_X0_fitsIn_7 : decode b_X0_fitsIn 7 = .ok (.bipush 31, 2) := by decide +kernel
theorem d_X0_fitsIn_9 : decode b_X0_fitsIn 9 = .ok (.ishr, 1) := by decide +kernel
theorem d_X0_fitsIn_10 : decode b_X0_fitsIn 10 = .ok (.istore_n 2, 1) := by decide +kernel
theorem d_X0_fitsIn_11 : decode b_X0_fitsIn 11 = .ok (.iload_n 1, 1) := by decide +kernel
theorem d_X0_fitsIn_12 : decode b_X0_fitsIn 12 = .ok (.istore_n 3, 1) := by decide +kernel
theorem d_X0_fitsIn_13 : decode b_X0_fitsIn 13 = .ok (.iload_n 3, 1) := by decide +kernel
theorem d_X0_fitsIn_14 : decode b_X0_fitsIn 14 = .ok (.aload_n 0, 1) := by decide +kernel
theorem d_X0_fitsIn_15 : decode b_X0_fitsIn 15 = .ok (.getfield 15, 3) := by decide +kernel
theorem d_X0_fitsIn_18 : decode b_X0_fitsIn 18 = .ok (.if_icmp .ge 21, 3) := by decide +kernel
theorem d_X0_fitsIn_21 : decode b_X0_fitsIn 21 = .ok (.aload_n 0, 1) := by decide +kernel
theorem d_X0_fitsIn_22 : decode b_X0_fitsIn 22 = .ok (.getfield 9, 3) := by decide +kernel
theorem d_X0_fitsIn_25 : decode b_X0_fitsIn 25 = .ok (.iload_n 3, 1) := by decide +kernel
theorem d_X0_fitsIn_26 : decode b_X0_fitsIn 26 = .ok (.iaload, 1) := by decide +kernel
theorem d_X0_fitsIn_27 : decode b_X0_fitsIn 27 = .ok (.iload_n 2, 1) := by decide +kernel
theorem d_X0_fitsIn_28 : decode b_X0_fitsIn 28 = .ok (.if_icmp .eq 5, 3) := by decide +kernel
theorem d_X0_fitsIn_31 : decode b_X0_fitsIn 31 = .ok (.iconst 0, 1) := by decide +kernel
theorem d_X0_fitsIn_32 : decode b_X0_fitsIn 32 = .ok (.ireturn, 1) := by decide +kernel
theorem d_X0_fitsIn_33 : decode b_X0_fitsIn 33 = .ok (.iinc 3 1, 3) := by decide +kernel
theorem d_X0_fitsIn_36 : decode b_X0_fitsIn 36 = .ok (.goto (-23), 3) := by decide +kernel
theorem d_X0_fitsIn_39 : decode b_X0_fitsIn 39 = .ok (.iconst 1, 1) := by decide +kernel
theorem d_X0_fitsIn_40 : decode b_X0_fitsIn 40 = .ok (.ireturn, 1) := by decide +kernel
theorem d_X0_limbAt_0 : decode b_X0_limbAt 0 = .ok (.iload_n 1, 1) := by decide +kernel
theorem d_X0_limbAt_1 : decode b_X0_limbAt 1 = .ok (.ifCond .ge 5, 3) := by decide +kernel
theorem d_X0_limbAt_4 : decode b_X0_limbAt 4 = .ok (.iconst 0, 1) := by decide +kernel
theorem d_X0_limbAt_5 : decode b_X0_limbAt 5 = .ok (.ireturn, 1) := by decide +kernel
theorem d_X0_limbAt_6 : decode b_X0_limbAt 6 = .ok (.iload_n 1, 1) := by decide +kernel
theorem d_X0_limbAt_7 : decode b_X0_limbAt 7 = .ok (.aload_n 0, 1) := by decide +kernel
theorem d_X0_limbAt_8 : decode b_X0_limbAt 8 = .ok (.getfield 15, 3) := by decide +kernel
theorem d_X0_limbAt_11 : decode b_X0_limbAt 11 = .ok (.if_icmp .ge 12, 3) := by decide +kernel
theorem d_X0_limbAt_14 : decode b_X0_limbAt 14 = .ok (.aload_n 0, 1) := by decide +kernel
theorem d_X0_limbAt_15 : decode b_X0_limbAt 15 = .ok (.getfield 9, 3) := by decide +kernel
theorem d_X0_limbAt_18 : decode b_X0_limbAt 18 = .ok (.iload_n 1, 1) := by decide +kernel
theorem d_X0_limbAt_19 : decode b_X0_limbAt 19 = .ok (.iaload, 1) := by decide +kernel
theorem d_X0_limbAt_20 : decode b_X0_limbAt 20 = .ok (.goto 17, 3) := by decide +kernel
theorem d_X0_limbAt_23 : decode b_X0_limbAt 23 = .ok (.aload_n 0, 1) := by decide +kernel
theorem d_X0_limbAt_24 : decode b_X0_limbAt 24 = .ok (.getfield 9, 3) := by decide +kernel
theorem d_X0_limbAt_27 : decode b_X0_limbAt 27 = .ok (.aload_n 0, 1) := by decide +kernel
theorem d_X0_limbAt_28 : decode b_X0_limbAt 28 = .ok (.getfield 15, 3) := by decide +kernel
theorem d_X0_limbAt_31 : decode b_X0_limbAt 31 = .ok (.iconst 1, 1) := by decide +kernel
theorem d_X0_limbAt_32 : decode b_X0_limbAt 32 = .ok (.isub, 1) := by decide +kernel
theorem d_X0_limbAt_33 : decode b_X0_limbAt 33 = .ok (.iaload, 1) := by decide +kernel
theorem d_X0_limbAt_34 : decode b_X0_limbAt 34 = .ok (.bipush 31, 2) := by decide +kernel
theorem d_X0_limbAt_36 : decode b_X0_limbAt 36 = .ok (.ishr, 1) := by decide +kernel
theorem d_X0_limbAt_37 : decode b_X0_limbAt 37 = .ok (.ireturn, 1) := by decide +kernel
theorem d_X0_keepLong_0 : decode b_X0_keepLong 0 = .ok (.lload_n 1, 1) := by decide +kernel
theorem d_X0_keepLong_1 : decode b_X0_keepLong 1 = .ok (.lstore_n 3, 1) := by decide +kernel
theorem d_X0_keepLong_2 : decode b_X0_keepLong 2 = .ok (.iconst 0, 1) := by decide +kernel
theorem d_X0_keepLong_3 : decode b_X0_keepLong 3 = .ok (.istore 5, 2) := by decide +kernel
theorem d_X0_keepLong_5 : decode b_X0_keepLong 5 = .ok (.iload 5, 2) := by decide +kernel
theorem d_X0_keepLong_7 : decode b_X0_keepLong 7 = .ok (.aload_n 0, 1) := by decide +kernel
theorem d_X0_keepLong_8 : decode b_X0_keepLong 8 = .ok (.getfield 15, 3) := by decide +kernel
theorem d_X0_keepLong_11 : decode b_X0_keepLong 11 = .ok (.if_icmp .ge 23, 3) := by decide +kernel
theorem d_X0_keepLong_14 : decode b_X0_keepLong 14 = .ok (.aload_n 0, 1) := by decide +kernel
theorem d_X0_keepLong_15 : decode b_X0_keepLong 15 = .ok (.getfield 9, 3) := by decide +kernel
theorem d_X0_keepLong_18 : decode b_X0_keepLong 18 = .ok (.iload 5, 2) := by decide +kernel
theorem d_X0_keepLong_20 : decode b_X0_keepLong 20 = .ok (.lload_n 3, 1) := by decide +kernel
theorem d_X0_keepLong_21 : decode b_X0_keepLong 21 = .ok (.l2i, 1) := by decide +kernel
theorem d_X0_keepLong_22 : decode b_X0_keepLong 22 = .ok (.iastore, 1) := by decide +kernel
theorem d_X0_keepLong_23 : decode b_X0_keepLong 23 = .ok (.lload_n 3, 1) := by decide +kernel
theorem d_X0_keepLong_24 : decode b_X0_keepLong 24 = .ok (.bipush 32, 2) := by decide +kernel
theorem d_X0_keepLong_26 : decode b_X0_keepLong 26 = .ok (.lshr, 1) := by decide +kernel
theorem d_X0_keepLong_27 : decode b_X0_keepLong 27 = .ok (.lstore_n 3, 1) := by decide +kernel
theorem d_X0_keepLong_28 : decode b_X0_keepLong 28 = .ok (.iinc 5 1, 3) := by decide +kernel
theorem d_X0_keepLong_31 : decode b_X0_keepLong 31 = .ok (.goto (-26), 3) := by decide +kernel
theorem d_X0_keepLong_34 : decode b_X0_keepLong 34 = .ok (.aload_n 0, 1) := by decide +kernel
theorem d_X0_keepLong_35 : decode b_X0_keepLong 35 = .ok (.getfield 15, 3) := by decide +kernel
theorem d_X0_keepLong_38 : decode b_X0_keepLong 38 = .ok (.iconst 1, 1) := by decide +kernel
theorem d_X0_keepLong_39 : decode b_X0_keepLong 39 = .ok (.if_icmp .gt 11, 3) := by decide +kernel
theorem d_X0_keepLong_42 : decode b_X0_keepLong 42 = .ok (.lload_n 1, 1) := by decide +kernel
theorem d_X0_keepLong_43 : decode b_X0_keepLong 43 = .ok (.lload_n 1, 1) := by decide +kernel
theorem d_X0_keepLong_44 : decode b_X0_keepLong 44 = .ok (.l2i, 1) := by decide +kernel
theorem d_X0_keepLong_45 : decode b_X0_keepLong 45 = .ok (.i2l, 1) := by decide +kernel
theorem d_X0_keepLong_46 : decode b_X0_keepLong 46 = .ok (.lcmp, 1) := by decide +kernel
theorem d_X0_keepLong_47 : decode b_X0_keepLong 47 = .ok (.ifCond .ne 7, 3) := by decide +kernel
theorem d_X0_keepLong_50 : decode b_X0_keepLong 50 = .ok (.iconst 1, 1) := by decide +kernel
theorem d_X0_keepLong_51 : decode b_X0_keepLong 51 = .ok (.goto 4, 3) := by decide +kernel
theorem d_X0_keepLong_54 : decode b_X0_keepLong 54 = .ok (.iconst 0, 1) := by decide +kernel
theorem d_X0_keepLong_55 : decode b_X0_keepLong 55 = .ok (.ireturn, 1) := by decide +kernel
theorem d_X0_keepRow_0 : decode b_X0_keepRow 0 = .ok (.aload_n 1, 1) := by decide +kernel
theorem d_X0_keepRow_1 : decode b_X0_keepRow 1 = .ok (.aload_n 0, 1) := by decide +kernel
theorem d_X0_keepRow_2 : decode b_X0_keepRow 2 = .ok (.getfield 15, 3) := by decide +kernel
theorem d_X0_keepRow_5 : decode b_X0_keepRow 5 = .ok (.invokevirtual 25, 3) := by decide +kernel
theorem d_X0_keepRow_8 : decode b_X0_keepRow 8 = .ok (.istore_n 2, 1) := by decide +kernel
theorem d_X0_keepRow_9 : decode b_X0_keepRow 9 = .ok (.iconst 0, 1) := by decide +kernel
theorem d_X0_keepRow_10 : decode b_X0_keepRow 10 = .ok (.istore_n 3, 1) := by decide +kernel
theorem d_X0_keepRow_11 : decode b_X0_keepRow 11 = .ok (.iload_n 3, 1) := by decide +kernel
theorem d_X0_keepRow_12 : decode b_X0_keepRow 12 = .ok (.aload_n 0, 1) := by decide +kernel
theorem d_X0_keepRow_13 : decode b_X0_keepRow 13 = .ok (.getfield 15, 3) := by decide +kernel
theorem d_X0_keepRow_16 : decode b_X0_keepRow 16 = .ok (.if_icmp .ge 20, 3) := by decide +kernel
theorem d_X0_keepRow_19 : decode b_X0_keepRow 19 = .ok (.aload_n 0, 1) := by decide +kernel
theorem d_X0_keepRow_20 : decode b_X0_keepRow 20 = .ok (.getfield 9, 3) := by decide +kernel
theorem d_X0_keepRow_23 : decode b_X0_keepRow 23 = .ok (.iload_n 3, 1) := by decide +kernel
theorem d_X0_keepRow_24 : decode b_X0_keepRow 24 = .ok (.aload_n 1, 1) := by decide +kernel
theorem d_X0_keepRow_25 : decode b_X0_keepRow 25 = .ok (.iload_n 3, 1) := by decide +kernel
theorem d_X0_keepRow_26 : decode b_X0_keepRow 26 = .ok (.invokevirtual 21, 3) := by decide +kernel
theorem d_X0_keepRow_29 : decode b_X0_keepRow 29 = .ok (.iastore, 1) := by decide +kernel
theorem d_X0_keepRow_30 : decode b_X0_keepRow 30 = .ok (.iinc 3 1, 3) := by decide +kernel
theorem d_X0_keepRow_33 : decode b_X0_keepRow 33 = .ok (.goto (-22), 3) := by decide +kernel
theorem d_X0_keepRow_36 : decode b_X0_keepRow 36 = .ok (.iload_n 2, 1) := by decide +kernel
theorem d_X0_keepRow_37 : decode b_X0_keepRow 37 = .ok (.ireturn, 1) := by decide +kernel
theorem d_X0_addFrom_0 : decode b_X0_addFrom 0 = .ok (.aload_n 0, 1) := by decide +kernel
theorem d_X0_addFrom_1 : decode b_X0_addFrom 1 = .ok (.iload_n 1, 1) := by decide +kernel
theorem d_X0_addFrom_2 : decode b_X0_addFrom 2 = .ok (.aload_n 2, 1) := by decide +kernel
theorem d_X0_addFrom_3 : decode b_X0_addFrom 3 = .ok (.iconst 0, 1) := by decide +kernel
theorem d_X0_addFrom_4 : decode b_X0_addFrom 4 = .ok (.invokevirtual 35, 3) := by decide +kernel
theorem d_X0_addFrom_7 : decode b_X0_addFrom 7 = .ok (.return_, 1) := by decide +kernel
theorem d_X0_addLimbs_0 : decode b_X0_addLimbs 0 = .ok (.iload_n 3, 1) := by decide +kernel
theorem d_X0_addLimbs_1 : decode b_X0_addLimbs 1 = .ok (.iconst 1, 1) := by decide +kernel
theorem d_X0_addLimbs_2 : decode b_X0_addLimbs 2 = .ok (.iand, 1) := by decide +kernel
theorem d_X0_addLimbs_3 : decode b_X0_addLimbs 3 = .ok (.i2l, 1) := by decide +kernel
theorem d_X0_addLimbs_4 : decode b_X0_addLimbs 4 = .ok (.lstore 4, 2) := by decide +kernel
theorem d_X0_addLimbs_6 : decode b_X0_addLimbs 6 = .ok (.iload_n 1, 1) := by decide +kernel
theorem d_X0_addLimbs_7 : decode b_X0_addLimbs 7 = .ok (.istore 6, 2) := by decide +kernel
theorem d_X0_addLimbs_9 : decode b_X0_addLimbs 9 = .ok (.iload 6, 2) := by decide +kernel
theorem d_X0_addLimbs_11 : decode b_X0_addLimbs 11 = .ok (.aload_n 0, 1) := by decide +kernel
theorem d_X0_addLimbs_12 : decode b_X0_addLimbs 12 = .ok (.getfield 15, 3) := by decide +kernel
theorem d_X0_addLimbs_15 : decode b_X0_addLimbs 15 = .ok (.if_icmp .ge 55, 3) := by decide +kernel
theorem d_X0_addLimbs_18 : decode b_X0_addLimbs 18 = .ok (.aload_n 0, 1) := by decide +kernel
theorem d_X0_addLimbs_19 : decode b_X0_addLimbs 19 = .ok (.getfield 9, 3) := by decide +kernel
theorem d_X0_addLimbs_22 : decode b_X0_addLimbs 22 = .ok (.iload 6, 2) := by decide +kernel
theorem d_X0_addLimbs_24 : decode b_X0_addLimbs 24 = .ok (.iaload, 1) := by decide +kernel
theorem d_X0_addLimbs_25 : decode b_X0_addLimbs 25 = .ok (.invokestatic 39, 3) := by decide +kernel
theorem d_X0_addLimbs_28 : decode b_X0_addLimbs 28 = .ok (.aload_n 2, 1) := by decide +kernel
theorem d_X0_addLimbs_29 : decode b_X0_addLimbs 29 = .ok (.iload 6, 2) := by decide +kernel
theorem d_X0_addLimbs_31 : decode b_X0_addLimbs 31 = .ok (.iload_n 1, 1) := by decide +kernel
theorem d_X0_addLimbs_32 : decode b_X0_addLimbs 32 = .ok (.isub, 1) := by decide +kernel
theorem d_X0_addLimbs_33 : decode b_X0_addLimbs 33 = .ok (.invokevirtual 21, 3) := by decide +kernel
theorem d_X0_addLimbs_36 : decode b_X0_addLimbs 36 = .ok (.iload_n 3, 1) := by decide +kernel
theorem d_X0_addLimbs_37 : decode b_X0_addLimbs 37 = .ok (.ixor, 1) := by decide +kernel
theorem d_X0_addLimbs_38 : decode b_X0_addLimbs 38 = .ok (.invokestatic 39, 3) := by decide +kernel
theorem d_X0_addLimbs_41 : decode b_X0_addLimbs 41 = .ok (.ladd, 1) := by decide +kernel
theorem d_X0_addLimbs_42 : decode b_X0_addLimbs 42 = .ok (.lload 4, 2) := by decide +kernel
theorem d_X0_addLimbs_44 : decode b_X0_addLimbs 44 = .ok (.ladd, 1) := by decide +kernel
theorem d_X0_addLimbs_45 : decode b_X0_addLimbs 45 = .ok (.lstore 7, 2) := by decide +kernel
theorem d_X0_addLimbs_47 : decode b_X0_addLimbs 47 = .ok (.aload_n 0, 1) := by decide +kernel
theorem d_X0_addLimbs_48 : decode b_X0_addLimbs 48 = .ok (.getfield 9, 3) := by decide +kernel
theorem d_X0_addLimbs_51 : decode b_X0_addLimbs 51 = .ok (.iload 6, 2) := by decide +kernel
theorem d_X0_addLimbs_53 : decode b_X0_addLimbs 53 = .ok (.lload 7, 2) := by decide +kernel
theorem d_X0_addLimbs_55 : decode b_X0_addLimbs 55 = .ok (.l2i, 1) := by decide +kernel
theorem d_X0_addLimbs_56 : decode b_X0_addLimbs 56 = .ok (.iastore, 1) := by decide +kernel
theorem d_X0_addLimbs_57 : decode b_X0_addLimbs 57 = .ok (.lload 7, 2) := by decide +kernel
theorem d_X0_addLimbs_59 : decode b_X0_addLimbs 59 = .ok (.bipush 32, 2) := by decide +kernel
theorem d_X0_addLimbs_61 : decode b_X0_addLimbs 61 = .ok (.lushr, 1) := by decide +kernel
theorem d_X0_addLimbs_62 : decode b_X0_addLimbs 62 = .ok (.lstore 4, 2) := by decide +kernel
theorem d_X0_addLimbs_64 : decode b_X0_addLimbs 64 = .ok (.iinc 6 1, 3) := by decide +kernel
theorem d_X0_addLimbs_67 : decode b_X0_addLimbs 67 = .ok (.goto (-58), 3) := by decide +kernel
theorem d_X0_addLimbs_70 : decode b_X0_addLimbs 70 = .ok (.return_, 1) := by decide +kernel
theorem d_X0_unsigned_0 : decode b_X0_unsigned 0 = .ok (.iload_n 0, 1) := by decide +kernel
theorem d_X0_unsigned_1 : decode b_X0_unsigned 1 = .ok (.i2l, 1) := by decide +kernel
theorem d_X0_unsigned_2 : decode b_X0_unsigned 2 = .ok (.ldc2_w 19, 3) := by decide +kernel
theorem d_X0_unsigned_5 : decode b_X0_unsigned 5 = .ok (.land, 1) := by decide +kernel
theorem d_X0_unsigned_6 : decode b_X0_unsigned 6 = .ok (.lreturn, 1) := by decide +kernel
theorem d_X0_signum_0 : decode b_X0_signum 0 = .ok (.aload_n 0, 1) := by decide +kernel
theorem d_X0_signum_1 : decode b_X0_signum 1 = .ok (.invokevirtual 57, 3) := by decide +kernel
theorem d_X0_signum_4 : decode b_X0_signum 4 = .ok (.ifCond .eq 5, 3) := by decide +kernel
theorem d_X0_signum_7 : decode b_X0_signum 7 = .ok (.iconst (-1), 1) := by decide +kernel
theorem d_X0_signum_8 : decode b_X0_signum 8 = .ok (.ireturn, 1) := by decide +kernel
theorem d_X0_signum_9 : decode b_X0_signum 9 = .ok (.iconst 0, 1) := by decide +kernel
theorem d_X0_signum_10 : decode b_X0_signum 10 = .ok (.istore_n 1, 1) := by decide +kernel
theorem d_X0_signum_11 : decode b_X0_signum 11 = .ok (.iload_n 1, 1) := by decide +kernel
theorem d_X0_signum_12 : decode b_X0_signum 12 = .ok (.aload_n 0, 1) := by decide +kernel
theorem d_X0_signum_13 : decode b_X0_signum 13 = .ok (.getfield 15, 3) := by decide +kernel
theorem d_X0_signum_16 : decode b_X0_signum 16 = .ok (.if_icmp .ge 20, 3) := by decide +kernel
theorem d_X0_signum_19 : decode b_X0_signum 19 = .ok (.aload_n 0, 1) := by decide +kernel
theorem d_X0_signum_20 : decode b_X0_signum 20 = .ok (.getfield 9, 3) := by decide +kernel
theorem d_X0_signum_23 : decode b_X0_signum 23 = .ok (.iload_n 1, 1) := by decide +kernel
theorem d_X0_signum_24 : decode b_X0_signum 24 = .ok (.iaload, 1) := by decide +kernel
theorem d_X0_signum_25 : decode b_X0_signum 25 = .ok (.ifCond .eq 5, 3) := by decide +kernel
theorem d_X0_signum_28 : decode b_X0_signum 28 = .ok (.iconst 1, 1) := by decide +kernel
theorem d_X0_signum_29 : decode b_X0_signum 29 = .ok (.ireturn, 1) := by decide +kernel
theorem d_X0_signum_30 : decode b_X0_signum 30 = .ok (.iinc 1 1, 3) := by decide +kernel
theorem d_X0_signum_33 : decode b_X0_signum 33 = .ok (.goto (-22), 3) := by decide +kernel
theorem d_X0_signum_36 : decode b_X0_signum 36 = .ok (.iconst 0, 1) := by decide +kernel
theorem d_X0_signum_37 : decode b_X0_signum 37 = .ok (.ireturn, 1) := by decide +kernel
theorem d_X0_isNegative_0 : decode b_X0_isNegative 0 = .ok (.aload_n 0, 1) := by decide +kernel
theorem d_X0_isNegative_1 : decode b_X0_isNegative 1 = .ok (.getfield 9, 3) := by decide +kernel
theorem d_X0_isNegative_4 : decode b_X0_isNegative 4 = .ok (.aload_n 0, 1) := by decide +kernel
theorem d_X0_isNegative_5 : decode b_X0_isNegative 5 = .ok (.getfield 15, 3) := by decide +kernel
theorem d_X0_isNegative_8 : decode b_X0_isNegative 8 = .ok (.iconst 1, 1) := by decide +kernel
theorem d_X0_isNegative_9 : decode b_X0_isNegative 9 = .ok (.isub, 1) := by decide +kernel
theorem d_X0_isNegative_10 : decode b_X0_isNegative 10 = .ok (.iaload, 1) := by decide +kernel
theorem d_X0_isNegative_11 : decode b_X0_isNegative 11 = .ok (.ifCond .ge 7, 3) := by decide +kernel
theorem d_X0_isNegative_14 : decode b_X0_isNegative 14 = .ok (.iconst 1, 1) := by decide +kernel
theorem d_X0_isNegative_15 : decode b_X0_isNegative 15 = .ok (.goto 4, 3) := by decide +kernel
theorem d_X0_isNegative_18 : decode b_X0_isNegative 18 = .ok (.iconst 0, 1) := by decide +kernel
theorem d_X0_isNegative_19 : decode b_X0_isNegative 19 = .ok (.ireturn, 1) := by decide +kernel
theorem d_X0_subtractFrom_0 : decode b_X0_subtractFrom 0 = .ok (.aload_n 0, 1) := by decide +kernel
theorem d_X0_subtractFrom_1 : decode b_X0_subtractFrom 1 = .ok (.iload_n 1, 1) := by decide +kernel
theorem d_X0_subtractFrom_2 : decode b_X0_subtractFrom 2 = .ok (.aload_n 2, 1) := by decide +kernel
theorem d_X0_subtractFrom_3 : decode b_X0_subtractFrom 3 = .ok (.iconst (-1), 1) := by decide +kernel
theorem d_X0_subtractFrom_4 : decode b_X0_subtractFrom 4 = .ok (.invokevirtual 35, 3) := by decide +kernel
theorem d_X0_subtractFrom_7 : decode b_X0_subtractFrom 7 = .ok (.return_, 1) := by decide +kernel
theorem d_X0_addProductOf_0 : decode b_X0_addProductOf 0 = .ok (.aload_n 1, 1) := by decide +kernel
theorem d_X0_addProductOf_1 : decode b_X0_addProductOf 1 = .ok (.invokevirtual 43, 3) := by decide +kernel
theorem d_X0_addProductOf_4 : decode b_X0_addProductOf 4 = .ok (.bipush 32, 2) := by decide +kernel
theorem d_X0_addProductOf_6 : decode b_X0_addProductOf 6 = .ok (.idiv, 1) := by decide +kernel
theorem d_X0_addProductOf_7 : decode b_X0_addProductOf 7 = .ok (.iconst 1, 1) := by decide +kernel
theorem d_X0_addProductOf_8 : decode b_X0_addProductOf 8 = .ok (.iadd, 1) := by decide +kernel
theorem d_X0_addProductOf_9 : decode b_X0_addProductOf 9 = .ok (.istore_n 3, 1) := by decide +kernel
theorem d_X0_addProductOf_10 : decode b_X0_addProductOf 10 = .ok (.iload_n 3, 1) := by decide +kernel
theorem d_X0_addProductOf_11 : decode b_X0_addProductOf 11 = .ok (.aload_n 0, 1) := by decide +kernel
theorem d_X0_addProductOf_12 : decode b_X0_addProductOf 12 = .ok (.getfield 15, 3) := by decide +kernel
theorem d_X0_addProductOf_15 : decode b_X0_addProductOf 15 = .ok (.invokestatic 47, 3) := by decide +kernel
theorem d_X0_addProductOf_18 : decode b_X0_addProductOf 18 = .ok (.istore 4, 2) := by decide +kernel
theorem d_X0_addProductOf_20 : decode b_X0_addProductOf 20 = .ok (.iconst 0, 1) := by decide +kernel
theorem d_X0_addProductOf_21 : decode b_X0_addProductOf 21 = .ok (.istore 5, 2) := by decide +kernel
theorem d_X0_addProductOf_23 : decode b_X0_addProductOf 23 = .ok (.iload 5, 2) := by decide +kernel
theorem d_X0_addProductOf_25 : decode b_X0_addProductOf 25 = .ok (.iload 4, 2) := by decide +kernel
theorem d_X0_addProductOf_27 : decode b_X0_addProductOf 27 = .ok (.if_icmp .ge 26, 3) := by decide +kernel
theorem d_X0_addProductOf_30 : decode b_X0_addProductOf 30 = .ok (.aload_n 0, 1) := by decide +kernel
theorem d_X0_addProductOf_31 : decode b_X0_addProductOf 31 = .ok (.iload 5, 2) := by decide +kernel
theorem d_X0_addProductOf_33 : decode b_X0_addProductOf 33 = .ok (.aload_n 1, 1) := by decide +kernel
theorem d_X0_addProductOf_34 : decode b_X0_addProductOf 34 = .ok (.getfield 9, 3) := by decide +kernel
theorem d_X0_addProductOf_37 : decode b_X0_addProductOf 37 = .ok (.iload 5, 2) := by decide +kernel
theorem d_X0_addProductOf_39 : decode b_X0_addProductOf 39 = .ok (.iaload, 1) := by decide +kernel
theorem d_X0_addProductOf_40 : decode b_X0_addProductOf 40 = .ok (.invokestatic 39, 3) := by decide +kernel
theorem d_X0_addProductOf_43 : decode b_X0_addProductOf 43 = .ok (.aload_n 2, 1) := by decide +kernel
theorem d_X0_addProductOf_44 : decode b_X0_addProductOf 44 = .ok (.invokevirtual 53, 3) := by decide +kernel
theorem d_X0_addProductOf_47 : decode b_X0_addProductOf 47 = .ok (.iinc 5 1, 3) := by decide +kernel
theorem d_X0_addProductOf_50 : decode b_X0_addProductOf 50 = .ok (.goto (-27), 3) := by decide +kernel
theorem d_X0_addProductOf_53 : decode b_X0_addProductOf 53 = .ok (.aload_n 1, 1) := by decide +kernel
theorem d_X0_addProductOf_54 : decode b_X0_addProductOf 54 = .ok (.invokevirtual 57, 3) := by decide +kernel
theorem d_X0_addProductOf_57 : decode b_X0_addProductOf 57 = .ok (.ifCond .eq 9, 3) := by decide +kernel
theorem d_X0_addProductOf_60 : decode b_X0_addProductOf 60 = .ok (.aload_n 0, 1) := by decide +kernel
theorem d_X0_addProductOf_61 : decode b_X0_addProductOf 61 = .ok (.iload_n 3, 1) := by decide +kernel
theorem d_X0_addProductOf_62 : decode b_X0_addProductOf 62 = .ok (.aload_n 2, 1) := by decide +kernel
theorem d_X0_addProductOf_63 : decode b_X0_addProductOf 63 = .ok (.invokevirtual 61, 3) := by decide +kernel
theorem d_X0_addProductOf_66 : decode b_X0_addProductOf 66 = .ok (.return_, 1) := by decide +kernel
theorem d_X0_bitLength_0 : decode b_X0_bitLength 0 = .ok (.aload_n 0, 1) := by decide +kernel
theorem d_X0_bitLength_1 : decode b_X0_bitLength 1 = .ok (.aload_n 0, 1) := by decide +kernel
theorem d_X0_bitLength_2 : decode b_X0_bitLength 2 = .ok (.getfield 15, 3) := by decide +kernel
theorem d_X0_bitLength_5 : decode b_X0_bitLength 5 = .ok (.invokevirtual 21, 3) := by decide +kernel
theorem d_X0_bitLength_8 : decode b_X0_bitLength 8 = .ok (.istore_n 1, 1) := by decide +kernel
theorem d_X0_bitLength_9 : decode b_X0_bitLength 9 = .ok (.aload_n 0, 1) := by decide +kernel
theorem d_X0_bitLength_10 : decode b_X0_bitLength 10 = .ok (.getfield 15, 3) := by decide +kernel
theorem d_X0_bitLength_13 : decode b_X0_bitLength 13 = .ok (.iconst 1, 1) := by decide +kernel
theorem d_X0_bitLength_14 : decode b_X0_bitLength 14 = .ok (.isub, 1) := by decide +kernel
theorem d_X0_bitLength_15 : decode b_X0_bitLength 15 = .ok (.istore_n 2, 1) := by decide +kernel
theorem d_X0_bitLength_16 : decode b_X0_bitLength 16 = .ok (.iload_n 2, 1) := by decide +kernel
theorem d_X0_bitLength_17 : decode b_X0_bitLength 17 = .ok (.ifCond .lt 39, 3) := by decide +kernel
theorem d_X0_bitLength_20 : decode b_X0_bitLength 20 = .ok (.aload_n 0, 1) := by decide +kernel
theorem d_X0_bitLength_21 : decode b_X0_bitLength 21 = .ok (.getfield 9, 3) := by decide +kernel
theorem d_X0_bitLength_24 : decode b_X0_bitLength 24 = .ok (.iload_n 2, 1) := by decide +kernel
theorem d_X0_bitLength_25 : decode b_X0_bitLength 25 = .ok (.iaload, 1) := by decide +kernel
theorem d_X0_bitLength_26 : decode b_X0_bitLength 26 = .ok (.iload_n 1, 1) := by decide +kernel
theorem d_X0_bitLength_27 : decode b_X0_bitLength 27 = .ok (.if_icmp .eq 23, 3) := by decide +kernel
theorem d_X0_bitLength_30 : decode b_X0_bitLength 30 = .ok (.bipush 32, 2) := by decide +kernel
theorem d_X0_bitLength_32 : decode b_X0_bitLength 32 = .ok (.iload_n 2, 1) := by decide +kernel
theorem d_X0_bitLength_33 : decode b_X0_bitLength 33 = .ok (.imul, 1) := by decide +kernel
theorem d_X0_bitLength_34 : decode b_X0_bitLength 34 = .ok (.bipush 32, 2) := by decide +kernel
theorem d_X0_bitLength_36 : decode b_X0_bitLength 36 = .ok (.iadd, 1) := by decide +kernel
theorem d_X0_bitLength_37 : decode b_X0_bitLength 37 = .ok (.aload_n 0, 1) := by decide +kernel
theorem d_X0_bitLength_38 : decode b_X0_bitLength 38 = .ok (.getfield 9, 3) := by decide +kernel
theorem d_X0_bitLength_41 : decode b_X0_bitLength 41 = .ok (.iload_n 2, 1) := by decide +kernel
theorem d_X0_bitLength_42 : decode b_X0_bitLength 42 = .ok (.iaload, 1) := by decide +kernel
theorem d_X0_bitLength_43 : decode b_X0_bitLength 43 = .ok (.iload_n 1, 1) := by decide +kernel
theorem d_X0_bitLength_44 : decode b_X0_bitLength 44 = .ok (.ixor, 1) := by decide +kernel
theorem d_X0_bitLength_45 : decode b_X0_bitLength 45 = .ok (.invokestatic 97, 3) := by decide +kernel
theorem d_X0_bitLength_48 : decode b_X0_bitLength 48 = .ok (.isub, 1) := by decide +kernel
theorem d_X0_bitLength_49 : decode b_X0_bitLength 49 = .ok (.ireturn, 1) := by decide +kernel
theorem d_X0_bitLength_50 : decode b_X0_bitLength 50 = .ok (.iinc 2 (-1), 3) := by decide +kernel
theorem d_X0_bitLength_53 : decode b_X0_bitLength 53 = .ok (.goto (-37), 3) := by decide +kernel
theorem d_X0_bitLength_56 : decode b_X0_bitLength 56 = .ok (.iconst 0, 1) := by decide +kernel
theorem d_X0_bitLength_57 : decode b_X0_bitLength 57 = .ok (.ireturn, 1) := by decide +kernel
theorem d_X0_addMultiple_0 : decode b_X0_addMultiple 0 = .ok (.lconst 0, 1) := by decide +kernel
theorem d_X0_addMultiple_1 : decode b_X0_addMultiple 1 = .ok (.lstore 5, 2) := by decide +kernel
theorem d_X0_addMultiple_3 : decode b_X0_addMultiple 3 = .ok (.iload_n 1, 1) := by decide +kernel
theorem d_X0_addMultiple_4 : decode b_X0_addMultiple 4 = .ok (.istore 7, 2) := by decide +kernel
theorem d_X0_addMultiple_6 : decode b_X0_addMultiple 6 = .ok (.iload 7, 2) := by decide +kernel
theorem d_X0_addMultiple_8 : decode b_X0_addMultiple 8 = .ok (.aload_n 0, 1) := by decide +kernel
theorem d_X0_addMultiple_9 : decode b_X0_addMultiple 9 = .ok (.getfield 15, 3) := by decide +kernel
theorem d_X0_addMultiple_12 : decode b_X0_addMultiple 12 = .ok (.if_icmp .ge 56, 3) := by decide +kernel
theorem d_X0_addMultiple_15 : decode b_X0_addMultiple 15 = .ok (.lload_n 2, 1) := by decide +kernel
theorem d_X0_addMultiple_16 : decode b_X0_addMultiple 16 = .ok (.aload 4, 2) := by decide +kernel
theorem d_X0_addMultiple_18 : decode b_X0_addMultiple 18 = .ok (.iload 7, 2) := by decide +kernel
theorem d_X0_addMultiple_20 : decode b_X0_addMultiple 20 = .ok (.iload_n 1, 1) := by decide +kernel
theorem d_X0_addMultiple_21 : decode b_X0_addMultiple 21 = .ok (.isub, 1) := by decide +kernel
theorem d_X0_addMultiple_22 : decode b_X0_addMultiple 22 = .ok (.invokevirtual 21, 3) := by decide +kernel
theorem d_X0_addMultiple_25 : decode b_X0_addMultiple 25 = .ok (.invokestatic 39, 3) := by decide +kernel
theorem d_X0_addMultiple_28 : decode b_X0_addMultiple 28 = .ok (.lmul, 1) := by decide +kernel
theorem d_X0_addMultiple_29 : decode b_X0_addMultiple 29 = .ok (.aload_n 0, 1) := by decide +kernel
theorem d_X0_addMultiple_30 : decode b_X0_addMultiple 30 = .ok (.getfield 9, 3) := by decide +kernel
theorem d_X0_addMultiple_33 : decode b_X0_addMultiple 33 = .ok (.iload 7, 2) := by decide +kernel
theorem d_X0_addMultiple_35 : decode b_X0_addMultiple 35 = .ok (.iaload, 1) := by decide +kernel
theorem d_X0_addMultiple_36 : decode b_X0_addMultiple 36 = .ok (.invokestatic 39, 3) := by decide +kernel
theorem d_X0_addMultiple_39 : decode b_X0_addMultiple 39 = .ok (.ladd, 1) := by decide +kernel
theorem d_X0_addMultiple_40 : decode b_X0_addMultiple 40 = .ok (.lload 5, 2) := by decide +kernel
theorem d_X0_addMultiple_42 : decode b_X0_addMultiple 42 = .ok (.ladd, 1) := by decide +kernel
theorem d_X0_addMultiple_43 : decode b_X0_addMultiple 43 = .ok (.lstore 8, 2) := by decide +kernel
theorem d_X0_addMultiple_45 : decode b_X0_addMultiple 45 = .ok (.aload_n 0, 1) := by decide +kernel
theorem d_X0_addMultiple_46 : decode b_X0_addMultiple 46 = .ok (.getfield 9, 3) := by decide +kernel
theorem d_X0_addMultiple_49 : decode b_X0_addMultiple 49 = .ok (.iload 7, 2) := by decide +kernel
theorem d_X0_addMultiple_51 : decode b_X0_addMultiple 51 = .ok (.lload 8, 2) := by decide +kernel
theorem d_X0_addMultiple_53 : decode b_X0_addMultiple 53 = .ok (.l2i, 1) := by decide +kernel
theorem d_X0_addMultiple_54 : decode b_X0_addMultiple 54 = .ok (.iastore, 1) := by decide +kernel
theorem d_X0_addMultiple_55 : decode b_X0_addMultiple 55 = .ok (.lload 8, 2) := by decide +kernel
theorem d_X0_addMultiple_57 : decode b_X0_addMultiple 57 = .ok (.bipush 32, 2) := by decide +kernel
theorem d_X0_addMultiple_59 : decode b_X0_addMultiple 59 = .ok (.lushr, 1) := by decide +kernel
theorem d_X0_addMultiple_60 : decode b_X0_addMultiple 60 = .ok (.lstore 5, 2) := by decide +kernel
theorem d_X0_addMultiple_62 : decode b_X0_addMultiple 62 = .ok (.iinc 7 1, 3) := by decide +kernel
theorem d_X0_addMultiple_65 : decode b_X0_addMultiple 65 = .ok (.goto (-59), 3) := by decide +kernel
theorem d_X0_addMultiple_68 : decode b_X0_addMultiple 68 = .ok (.return_, 1) := by decide +kernel
theorem d_X0_subtractProductOf_0 : decode b_X0_subtractProductOf 0 = .ok (.aload_n 0, 1) := by decide +kernel
theorem d_X0_subtractProductOf_1 : decode b_X0_subtractProductOf 1 = .ok (.invokevirtual 65, 3) := by decide +kernel
theorem d_X0_subtractProductOf_4 : decode b_X0_subtractProductOf 4 = .ok (.aload_n 0, 1) := by decide +kernel
theorem d_X0_subtractProductOf_5 : decode b_X0_subtractProductOf 5 = .ok (.aload_n 1, 1) := by decide +kernel
theorem d_X0_subtractProductOf_6 : decode b_X0_subtractProductOf 6 = .ok (.aload_n 2, 1) := by decide +kernel
theorem d_X0_subtractProductOf_7 : decode b_X0_subtractProductOf 7 = .ok (.invokevirtual 68, 3) := by decide +kernel
theorem d_X0_subtractProductOf_10 : decode b_X0_subtractProductOf 10 = .ok (.aload_n 0, 1) := by decide +kernel
theorem d_X0_subtractProductOf_11 : decode b_X0_subtractProductOf 11 = .ok (.invokevirtual 65, 3) := by decide +kernel
theorem d_X0_subtractProductOf_14 : decode b_X0_subtractProductOf 14 = .ok (.return_, 1) := by decide +kernel
theorem d_X0_complement_0 : decode b_X0_complement 0 = .ok (.iconst 0, 1) := by decide +kernel
theorem d_X0_complement_1 : decode b_X0_complement 1 = .ok (.istore_n 1, 1) := by decide +kernel
theorem d_X0_complement_2 : decode b_X0_complement 2 = .ok (.iload_n 1, 1) := by decide +kernel
theorem d_X0_complement_3 : decode b_X0_complement 3 = .ok (.aload_n 0, 1) := by decide +kernel
theorem d_X0_complement_4 : decode b_X0_complement 4 = .ok (.getfield 15, 3) := by decide +kernel
theorem d_X0_complement_7 : decode b_X0_complement 7 = .ok (.if_icmp .ge 23, 3) := by decide +kernel
theorem d_X0_complement_10 : decode b_X0_complement 10 = .ok (.aload_n 0, 1) := by decide +kernel
theorem d_X0_complement_11 : decode b_X0_complement 11 = .ok (.getfield 9, 3) := by decide +kernel
theorem d_X0_complement_14 : decode b_X0_complement 14 = .ok (.iload_n 1, 1) := by decide +kernel
theorem d_X0_complement_15 : decode b_X0_complement 15 = .ok (.aload_n 0, 1) := by decide +kernel
theorem d_X0_complement_16 : decode b_X0_complement 16 = .ok (.getfield 9, 3) := by decide +kernel
theorem d_X0_complement_19 : decode b_X0_complement 19 = .ok (.iload_n 1, 1) := by decide +kernel
theorem d_X0_complement_20 : decode b_X0_complement 20 = .ok (.iaload, 1) := by decide +kernel
theorem d_X0_complement_21 : decode b_X0_complement 21 = .ok (.iconst (-1), 1) := by decide +kernel
theorem d_X0_complement_22 : decode b_X0_complement 22 = .ok (.ixor, 1) := by decide +kernel
theorem d_X0_complement_23 : decode b_X0_complement 23 = .ok (.iastore, 1) := by decide +kernel
theorem d_X0_complement_24 : decode b_X0_complement 24 = .ok (.iinc 1 1, 3) := by decide +kernel
theorem d_X0_complement_27 : decode b_X0_complement 27 = .ok (.goto (-25), 3) := by decide +kernel
theorem d_X0_complement_30 : decode b_X0_complement 30 = .ok (.return_, 1) := by decide +kernel
theorem d_X0_multiplyBy_0 : decode b_X0_multiplyBy 0 = .ok (.lload_n 1, 1) := by decide +kernel
theorem d_X0_multiplyBy_1 : decode b_X0_multiplyBy 1 = .ok (.ldc2_w 19, 3) := by decide +kernel
theorem d_X0_multiplyBy_4 : decode b_X0_multiplyBy 4 = .ok (.land, 1) := by decide +kernel
theorem d_X0_multiplyBy_5 : decode b_X0_multiplyBy 5 = .ok (.lstore_n 3, 1) := by decide +kernel
theorem d_X0_multiplyBy_6 : decode b_X0_multiplyBy 6 = .ok (.lload_n 1, 1) := by decide +kernel
theorem d_X0_multiplyBy_7 : decode b_X0_multiplyBy 7 = .ok (.bipush 32, 2) := by decide +kernel
theorem d_X0_multiplyBy_9 : decode b_X0_multiplyBy 9 = .ok (.lshr, 1) := by decide +kernel
theorem d_X0_multiplyBy_10 : decode b_X0_multiplyBy 10 = .ok (.lstore 5, 2) := by decide +kernel
theorem d_X0_multiplyBy_12 : decode b_X0_multiplyBy 12 = .ok (.lconst 0, 1) := by decide +kernel
theorem d_X0_multiplyBy_13 : decode b_X0_multiplyBy 13 = .ok (.lstore 7, 2) := by decide +kernel
theorem d_X0_multiplyBy_15 : decode b_X0_multiplyBy 15 = .ok (.iconst 0, 1) := by decide +kernel
theorem d_X0_multiplyBy_16 : decode b_X0_multiplyBy 16 = .ok (.istore 9, 2) := by decide +kernel
theorem d_X0_multiplyBy_18 : decode b_X0_multiplyBy 18 = .ok (.iload 9, 2) := by decide +kernel
theorem d_X0_multiplyBy_20 : decode b_X0_multiplyBy 20 = .ok (.aload_n 0, 1) := by decide +kernel
theorem d_X0_multiplyBy_21 : decode b_X0_multiplyBy 21 = .ok (.getfield 15, 3) := by decide +kernel
theorem d_X0_multiplyBy_24 : decode b_X0_multiplyBy 24 = .ok (.if_icmp .ge 63, 3) := by decide +kernel
theorem d_X0_multiplyBy_27 : decode b_X0_multiplyBy 27 = .ok (.aload_n 0, 1) := by decide +kernel
theorem d_X0_multiplyBy_28 : decode b_X0_multiplyBy 28 = .ok (.getfield 9, 3) := by decide +kernel
theorem d_X0_multiplyBy_31 : decode b_X0_multiplyBy 31 = .ok (.iload 9, 2) := by decide +kernel
theorem d_X0_multiplyBy_33 : decode b_X0_multiplyBy 33 = .ok (.iaload, 1) := by decide +kernel
theorem d_X0_multiplyBy_34 : decode b_X0_multiplyBy 34 = .ok (.invokestatic 39, 3) := by decide +kernel
theorem d_X0_multiplyBy_37 : decode b_X0_multiplyBy 37 = .ok (.lstore 10, 2) := by decide +kernel
theorem d_X0_multiplyBy_39 : decode b_X0_multiplyBy 39 = .ok (.lload 10, 2) := by decide +kernel
theorem d_X0_multiplyBy_41 : decode b_X0_multiplyBy 41 = .ok (.lload_n 3, 1) := by decide +kernel
theorem d_X0_multiplyBy_42 : decode b_X0_multiplyBy 42 = .ok (.lmul, 1) := by decide +kernel
theorem d_X0_multiplyBy_43 : decode b_X0_multiplyBy 43 = .ok (.lload 7, 2) := by decide +kernel
theorem d_X0_multiplyBy_45 : decode b_X0_multiplyBy 45 = .ok (.ldc2_w 19, 3) := by decide +kernel
theorem d_X0_multiplyBy_48 : decode b_X0_multiplyBy 48 = .ok (.land, 1) := by decide +kernel
theorem d_X0_multiplyBy_49 : decode b_X0_multiplyBy 49 = .ok (.ladd, 1) := by decide +kernel
theorem d_X0_multiplyBy_50 : decode b_X0_multiplyBy 50 = .ok (.lstore 12, 2) := by decide +kernel
theorem d_X0_multiplyBy_52 : decode b_X0_multiplyBy 52 = .ok (.aload_n 0, 1) := by decide +kernel
theorem d_X0_multiplyBy_53 : decode b_X0_multiplyBy 53 = .ok (.getfield 9, 3) := by decide +kernel
theorem d_X0_multiplyBy_56 : decode b_X0_multiplyBy 56 = .ok (.iload 9, 2) := by decide +kernel
theorem d_X0_multiplyBy_58 : decode b_X0_multiplyBy 58 = .ok (.lload 12, 2) := by decide +kernel
theorem d_X0_multiplyBy_60 : decode b_X0_multiplyBy 60 = .ok (.l2i, 1) := by decide +kernel
theorem d_X0_multiplyBy_61 : decode b_X0_multiplyBy 61 = .ok (.iastore, 1) := by decide +kernel
theorem d_X0_multiplyBy_62 : decode b_X0_multiplyBy 62 = .ok (.lload 10, 2) := by decide +kernel
