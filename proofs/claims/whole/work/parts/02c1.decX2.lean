theorem d_X2_set_16 : decode b_X2_set 16 = .ok (.ifCond .eq 5, 3) := by decide +kernel
theorem d_X2_set_19 : decode b_X2_set 19 = .ok (.iconst 0, 1) := by decide +kernel
theorem d_X2_set_20 : decode b_X2_set 20 = .ok (.ireturn, 1) := by decide +kernel
theorem d_X2_set_21 : decode b_X2_set 21 = .ok (.aload_n 0, 1) := by decide +kernel
theorem d_X2_set_22 : decode b_X2_set 22 = .ok (.iconst 0, 1) := by decide +kernel
theorem d_X2_set_23 : decode b_X2_set 23 = .ok (.lload_n 2, 1) := by decide +kernel
theorem d_X2_set_24 : decode b_X2_set 24 = .ok (.invokevirtual 72, 3) := by decide +kernel
theorem d_X2_set_27 : decode b_X2_set 27 = .ok (.aload_n 0, 1) := by decide +kernel
theorem d_X2_set_28 : decode b_X2_set 28 = .ok (.iload_n 1, 1) := by decide +kernel
theorem d_X2_set_29 : decode b_X2_set 29 = .ok (.iconst 0, 1) := by decide +kernel
theorem d_X2_set_30 : decode b_X2_set 30 = .ok (.invokevirtual 68, 3) := by decide +kernel
theorem d_X2_set_33 : decode b_X2_set 33 = .ok (.ireturn, 1) := by decide +kernel
theorem d_X2_loadLong_0 : decode b_X2_loadLong 0 = .ok (.aload_n 0, 1) := by decide +kernel
theorem d_X2_loadLong_1 : decode b_X2_loadLong 1 = .ok (.iload_n 1, 1) := by decide +kernel
theorem d_X2_loadLong_2 : decode b_X2_loadLong 2 = .ok (.invokevirtual 27, 3) := by decide +kernel
theorem d_X2_loadLong_5 : decode b_X2_loadLong 5 = .ok (.lload_n 2, 1) := by decide +kernel
theorem d_X2_loadLong_6 : decode b_X2_loadLong 6 = .ok (.lconst 0, 1) := by decide +kernel
theorem d_X2_loadLong_7 : decode b_X2_loadLong 7 = .ok (.lcmp, 1) := by decide +kernel
theorem d_X2_loadLong_8 : decode b_X2_loadLong 8 = .ok (.ifCond .ge 8, 3) := by decide +kernel
theorem d_X2_loadLong_11 : decode b_X2_loadLong 11 = .ok (.lload_n 2, 1) := by decide +kernel
theorem d_X2_loadLong_12 : decode b_X2_loadLong 12 = .ok (.lneg, 1) := by decide +kernel
theorem d_X2_loadLong_13 : decode b_X2_loadLong 13 = .ok (.goto 4, 3) := by decide +kernel
theorem d_X2_loadLong_16 : decode b_X2_loadLong 16 = .ok (.lload_n 2, 1) := by decide +kernel
theorem d_X2_loadLong_17 : decode b_X2_loadLong 17 = .ok (.lstore 4, 2) := by decide +kernel
theorem d_X2_loadLong_19 : decode b_X2_loadLong 19 = .ok (.iconst 0, 1) := by decide +kernel
theorem d_X2_loadLong_20 : decode b_X2_loadLong 20 = .ok (.istore 6, 2) := by decide +kernel
theorem d_X2_loadLong_22 : decode b_X2_loadLong 22 = .ok (.iload 6, 2) := by decide +kernel
theorem d_X2_loadLong_24 : decode b_X2_loadLong 24 = .ok (.iconst 4, 1) := by decide +kernel
theorem d_X2_loadLong_25 : decode b_X2_loadLong 25 = .ok (.if_icmp .ge 35, 3) := by decide +kernel
theorem d_X2_loadLong_28 : decode b_X2_loadLong 28 = .ok (.aload_n 0, 1) := by decide +kernel
theorem d_X2_loadLong_29 : decode b_X2_loadLong 29 = .ok (.getfield 20, 3) := by decide +kernel
theorem d_X2_loadLong_32 : decode b_X2_loadLong 32 = .ok (.sipush 1100, 3) := by decide +kernel
theorem d_X2_loadLong_35 : decode b_X2_loadLong 35 = .ok (.iload_n 1, 1) := by decide +kernel
theorem d_X2_loadLong_36 : decode b_X2_loadLong 36 = .ok (.imul, 1) := by decide +kernel
theorem d_X2_loadLong_37 : decode b_X2_loadLong 37 = .ok (.iload 6, 2) := by decide +kernel
theorem d_X2_loadLong_39 : decode b_X2_loadLong 39 = .ok (.iadd, 1) := by decide +kernel
theorem d_X2_loadLong_40 : decode b_X2_loadLong 40 = .ok (.lload 4, 2) := by decide +kernel
theorem d_X2_loadLong_42 : decode b_X2_loadLong 42 = .ok (.bipush 16, 2) := by decide +kernel
theorem d_X2_loadLong_44 : decode b_X2_loadLong 44 = .ok (.iload 6, 2) := by decide +kernel
theorem d_X2_loadLong_46 : decode b_X2_loadLong 46 = .ok (.imul, 1) := by decide +kernel
theorem d_X2_loadLong_47 : decode b_X2_loadLong 47 = .ok (.lushr, 1) := by decide +kernel
theorem d_X2_loadLong_48 : decode b_X2_loadLong 48 = .ok (.ldc2_w 37, 3) := by decide +kernel
theorem d_X2_loadLong_51 : decode b_X2_loadLong 51 = .ok (.land, 1) := by decide +kernel
theorem d_X2_loadLong_52 : decode b_X2_loadLong 52 = .ok (.l2i, 1) := by decide +kernel
theorem d_X2_loadLong_53 : decode b_X2_loadLong 53 = .ok (.iastore, 1) := by decide +kernel
theorem d_X2_loadLong_54 : decode b_X2_loadLong 54 = .ok (.iinc 6 1, 3) := by decide +kernel
theorem d_X2_loadLong_57 : decode b_X2_loadLong 57 = .ok (.goto (-35), 3) := by decide +kernel
theorem d_X2_loadLong_60 : decode b_X2_loadLong 60 = .ok (.aload_n 0, 1) := by decide +kernel
theorem d_X2_loadLong_61 : decode b_X2_loadLong 61 = .ok (.getfield 17, 3) := by decide +kernel
theorem d_X2_loadLong_64 : decode b_X2_loadLong 64 = .ok (.iload_n 1, 1) := by decide +kernel
theorem d_X2_loadLong_65 : decode b_X2_loadLong 65 = .ok (.lload_n 2, 1) := by decide +kernel
theorem d_X2_loadLong_66 : decode b_X2_loadLong 66 = .ok (.lconst 0, 1) := by decide +kernel
theorem d_X2_loadLong_67 : decode b_X2_loadLong 67 = .ok (.lcmp, 1) := by decide +kernel
theorem d_X2_loadLong_68 : decode b_X2_loadLong 68 = .ok (.ifCond .ge 7, 3) := by decide +kernel
theorem d_X2_loadLong_71 : decode b_X2_loadLong 71 = .ok (.iconst (-1), 1) := by decide +kernel
theorem d_X2_loadLong_72 : decode b_X2_loadLong 72 = .ok (.goto 14, 3) := by decide +kernel
theorem d_X2_loadLong_75 : decode b_X2_loadLong 75 = .ok (.lload_n 2, 1) := by decide +kernel
theorem d_X2_loadLong_76 : decode b_X2_loadLong 76 = .ok (.lconst 0, 1) := by decide +kernel
theorem d_X2_loadLong_77 : decode b_X2_loadLong 77 = .ok (.lcmp, 1) := by decide +kernel
theorem d_X2_loadLong_78 : decode b_X2_loadLong 78 = .ok (.ifCond .le 7, 3) := by decide +kernel
theorem d_X2_loadLong_81 : decode b_X2_loadLong 81 = .ok (.iconst 1, 1) := by decide +kernel
theorem d_X2_loadLong_82 : decode b_X2_loadLong 82 = .ok (.goto 4, 3) := by decide +kernel
theorem d_X2_loadLong_85 : decode b_X2_loadLong 85 = .ok (.iconst 0, 1) := by decide +kernel
theorem d_X2_loadLong_86 : decode b_X2_loadLong 86 = .ok (.iastore, 1) := by decide +kernel
theorem d_X2_loadLong_87 : decode b_X2_loadLong 87 = .ok (.return_, 1) := by decide +kernel
theorem d_X2_put_0 : decode b_X2_put 0 = .ok (.aload_n 0, 1) := by decide +kernel
theorem d_X2_put_1 : decode b_X2_put 1 = .ok (.iload_n 1, 1) := by decide +kernel
theorem d_X2_put_2 : decode b_X2_put 2 = .ok (.invokestatic 62, 3) := by decide +kernel
theorem d_X2_put_5 : decode b_X2_put 5 = .ok (.ifCond .eq 17, 3) := by decide +kernel
theorem d_X2_put_8 : decode b_X2_put 8 = .ok (.iload_n 2, 1) := by decide +kernel
theorem d_X2_put_9 : decode b_X2_put 9 = .ok (.ifCond .lt 13, 3) := by decide +kernel
theorem d_X2_put_12 : decode b_X2_put 12 = .ok (.iload_n 2, 1) := by decide +kernel
theorem d_X2_put_13 : decode b_X2_put 13 = .ok (.aload_n 0, 1) := by decide +kernel
theorem d_X2_put_14 : decode b_X2_put 14 = .ok (.getfield 7, 3) := by decide +kernel
theorem d_X2_put_17 : decode b_X2_put 17 = .ok (.iload_n 1, 1) := by decide +kernel
theorem d_X2_put_18 : decode b_X2_put 18 = .ok (.iaload, 1) := by decide +kernel
theorem d_X2_put_19 : decode b_X2_put 19 = .ok (.if_icmp .lt 7, 3) := by decide +kernel
theorem d_X2_put_22 : decode b_X2_put 22 = .ok (.iconst 1, 1) := by decide +kernel
theorem d_X2_put_23 : decode b_X2_put 23 = .ok (.goto 4, 3) := by decide +kernel
theorem d_X2_put_26 : decode b_X2_put 26 = .ok (.iconst 0, 1) := by decide +kernel
theorem d_X2_put_27 : decode b_X2_put 27 = .ok (.invokevirtual 65, 3) := by decide +kernel
theorem d_X2_put_30 : decode b_X2_put 30 = .ok (.ifCond .eq 5, 3) := by decide +kernel
theorem d_X2_put_33 : decode b_X2_put 33 = .ok (.iconst 0, 1) := by decide +kernel
theorem d_X2_put_34 : decode b_X2_put 34 = .ok (.ireturn, 1) := by decide +kernel
theorem d_X2_put_35 : decode b_X2_put 35 = .ok (.aload_n 0, 1) := by decide +kernel
theorem d_X2_put_36 : decode b_X2_put 36 = .ok (.iload_n 1, 1) := by decide +kernel
theorem d_X2_put_37 : decode b_X2_put 37 = .ok (.iload_n 2, 1) := by decide +kernel
theorem d_X2_put_38 : decode b_X2_put 38 = .ok (.invokevirtual 76, 3) := by decide +kernel
theorem d_X2_put_41 : decode b_X2_put 41 = .ok (.istore 4, 2) := by decide +kernel
theorem d_X2_put_43 : decode b_X2_put 43 = .ok (.aload_n 0, 1) := by decide +kernel
theorem d_X2_put_44 : decode b_X2_put 44 = .ok (.getfield 14, 3) := by decide +kernel
theorem d_X2_put_47 : decode b_X2_put 47 = .ok (.sipush 512, 3) := by decide +kernel
theorem d_X2_put_50 : decode b_X2_put 50 = .ok (.iload_n 1, 1) := by decide +kernel
theorem d_X2_put_51 : decode b_X2_put 51 = .ok (.imul, 1) := by decide +kernel
theorem d_X2_put_52 : decode b_X2_put 52 = .ok (.iconst 2, 1) := by decide +kernel
theorem d_X2_put_53 : decode b_X2_put 53 = .ok (.iload_n 2, 1) := by decide +kernel
theorem d_X2_put_54 : decode b_X2_put 54 = .ok (.imul, 1) := by decide +kernel
theorem d_X2_put_55 : decode b_X2_put 55 = .ok (.iadd, 1) := by decide +kernel
theorem d_X2_put_56 : decode b_X2_put 56 = .ok (.iload_n 3, 1) := by decide +kernel
theorem d_X2_put_57 : decode b_X2_put 57 = .ok (.ldc 31, 2) := by decide +kernel
theorem d_X2_put_59 : decode b_X2_put 59 = .ok (.iand, 1) := by decide +kernel
theorem d_X2_put_60 : decode b_X2_put 60 = .ok (.iastore, 1) := by decide +kernel
theorem d_X2_put_61 : decode b_X2_put 61 = .ok (.aload_n 0, 1) := by decide +kernel
theorem d_X2_put_62 : decode b_X2_put 62 = .ok (.getfield 14, 3) := by decide +kernel
theorem d_X2_put_65 : decode b_X2_put 65 = .ok (.sipush 512, 3) := by decide +kernel
theorem d_X2_put_68 : decode b_X2_put 68 = .ok (.iload_n 1, 1) := by decide +kernel
theorem d_X2_put_69 : decode b_X2_put 69 = .ok (.imul, 1) := by decide +kernel
theorem d_X2_put_70 : decode b_X2_put 70 = .ok (.iconst 2, 1) := by decide +kernel
theorem d_X2_put_71 : decode b_X2_put 71 = .ok (.iload_n 2, 1) := by decide +kernel
theorem d_X2_put_72 : decode b_X2_put 72 = .ok (.imul, 1) := by decide +kernel
theorem d_X2_put_73 : decode b_X2_put 73 = .ok (.iadd, 1) := by decide +kernel
theorem d_X2_put_74 : decode b_X2_put 74 = .ok (.iconst 1, 1) := by decide +kernel
theorem d_X2_put_75 : decode b_X2_put 75 = .ok (.iadd, 1) := by decide +kernel
theorem d_X2_put_76 : decode b_X2_put 76 = .ok (.iload_n 3, 1) := by decide +kernel
theorem d_X2_put_77 : decode b_X2_put 77 = .ok (.bipush 16, 2) := by decide +kernel
theorem d_X2_put_79 : decode b_X2_put 79 = .ok (.ishr, 1) := by decide +kernel
theorem d_X2_put_80 : decode b_X2_put 80 = .ok (.ldc 31, 2) := by decide +kernel
theorem d_X2_put_82 : decode b_X2_put 82 = .ok (.iand, 1) := by decide +kernel
theorem d_X2_put_83 : decode b_X2_put 83 = .ok (.iastore, 1) := by decide +kernel
theorem d_X2_put_84 : decode b_X2_put 84 = .ok (.iload 4, 2) := by decide +kernel
theorem d_X2_put_86 : decode b_X2_put 86 = .ok (.ireturn, 1) := by decide +kernel
theorem d_X2_limbOf_0 : decode b_X2_limbOf 0 = .ok (.aload_n 0, 1) := by decide +kernel
theorem d_X2_limbOf_1 : decode b_X2_limbOf 1 = .ok (.getfield 14, 3) := by decide +kernel
theorem d_X2_limbOf_4 : decode b_X2_limbOf 4 = .ok (.sipush 512, 3) := by decide +kernel
theorem d_X2_limbOf_7 : decode b_X2_limbOf 7 = .ok (.iload_n 1, 1) := by decide +kernel
theorem d_X2_limbOf_8 : decode b_X2_limbOf 8 = .ok (.imul, 1) := by decide +kernel
theorem d_X2_limbOf_9 : decode b_X2_limbOf 9 = .ok (.iconst 2, 1) := by decide +kernel
theorem d_X2_limbOf_10 : decode b_X2_limbOf 10 = .ok (.iload_n 2, 1) := by decide +kernel
theorem d_X2_limbOf_11 : decode b_X2_limbOf 11 = .ok (.imul, 1) := by decide +kernel
theorem d_X2_limbOf_12 : decode b_X2_limbOf 12 = .ok (.iadd, 1) := by decide +kernel
theorem d_X2_limbOf_13 : decode b_X2_limbOf 13 = .ok (.iconst 1, 1) := by decide +kernel
theorem d_X2_limbOf_14 : decode b_X2_limbOf 14 = .ok (.iadd, 1) := by decide +kernel
theorem d_X2_limbOf_15 : decode b_X2_limbOf 15 = .ok (.iaload, 1) := by decide +kernel
theorem d_X2_limbOf_16 : decode b_X2_limbOf 16 = .ok (.bipush 16, 2) := by decide +kernel
theorem d_X2_limbOf_18 : decode b_X2_limbOf 18 = .ok (.ishl, 1) := by decide +kernel
theorem d_X2_limbOf_19 : decode b_X2_limbOf 19 = .ok (.aload_n 0, 1) := by decide +kernel
theorem d_X2_limbOf_20 : decode b_X2_limbOf 20 = .ok (.getfield 14, 3) := by decide +kernel
theorem d_X2_limbOf_23 : decode b_X2_limbOf 23 = .ok (.sipush 512, 3) := by decide +kernel
theorem d_X2_limbOf_26 : decode b_X2_limbOf 26 = .ok (.iload_n 1, 1) := by decide +kernel
theorem d_X2_limbOf_27 : decode b_X2_limbOf 27 = .ok (.imul, 1) := by decide +kernel
theorem d_X2_limbOf_28 : decode b_X2_limbOf 28 = .ok (.iconst 2, 1) := by decide +kernel
theorem d_X2_limbOf_29 : decode b_X2_limbOf 29 = .ok (.iload_n 2, 1) := by decide +kernel
theorem d_X2_limbOf_30 : decode b_X2_limbOf 30 = .ok (.imul, 1) := by decide +kernel
theorem d_X2_limbOf_31 : decode b_X2_limbOf 31 = .ok (.iadd, 1) := by decide +kernel
theorem d_X2_limbOf_32 : decode b_X2_limbOf 32 = .ok (.iaload, 1) := by decide +kernel
theorem d_X2_limbOf_33 : decode b_X2_limbOf 33 = .ok (.ior, 1) := by decide +kernel
theorem d_X2_limbOf_34 : decode b_X2_limbOf 34 = .ok (.ireturn, 1) := by decide +kernel
theorem d_X2_limb_0 : decode b_X2_limb 0 = .ok (.aload_n 0, 1) := by decide +kernel
theorem d_X2_limb_1 : decode b_X2_limb 1 = .ok (.iload_n 1, 1) := by decide +kernel
theorem d_X2_limb_2 : decode b_X2_limb 2 = .ok (.invokestatic 62, 3) := by decide +kernel
theorem d_X2_limb_5 : decode b_X2_limb 5 = .ok (.ifCond .eq 7, 3) := by decide +kernel
theorem d_X2_limb_8 : decode b_X2_limb 8 = .ok (.iload_n 2, 1) := by decide +kernel
theorem d_X2_limb_9 : decode b_X2_limb 9 = .ok (.ifCond .ge 7, 3) := by decide +kernel
theorem d_X2_limb_12 : decode b_X2_limb 12 = .ok (.iconst 1, 1) := by decide +kernel
theorem d_X2_limb_13 : decode b_X2_limb 13 = .ok (.goto 4, 3) := by decide +kernel
theorem d_X2_limb_16 : decode b_X2_limb 16 = .ok (.iconst 0, 1) := by decide +kernel
theorem d_X2_limb_17 : decode b_X2_limb 17 = .ok (.invokevirtual 65, 3) := by decide +kernel
theorem d_X2_limb_20 : decode b_X2_limb 20 = .ok (.ifCond .eq 5, 3) := by decide +kernel
theorem d_X2_limb_23 : decode b_X2_limb 23 = .ok (.iconst 0, 1) := by decide +kernel
theorem d_X2_limb_24 : decode b_X2_limb 24 = .ok (.ireturn, 1) := by decide +kernel
theorem d_X2_limb_25 : decode b_X2_limb 25 = .ok (.iload_n 2, 1) := by decide +kernel
theorem d_X2_limb_26 : decode b_X2_limb 26 = .ok (.aload_n 0, 1) := by decide +kernel
theorem d_X2_limb_27 : decode b_X2_limb 27 = .ok (.getfield 7, 3) := by decide +kernel
theorem d_X2_limb_30 : decode b_X2_limb 30 = .ok (.iload_n 1, 1) := by decide +kernel
theorem d_X2_limb_31 : decode b_X2_limb 31 = .ok (.iaload, 1) := by decide +kernel
theorem d_X2_limb_32 : decode b_X2_limb 32 = .ok (.if_icmp .ge 10, 3) := by decide +kernel
theorem d_X2_limb_35 : decode b_X2_limb 35 = .ok (.aload_n 0, 1) := by decide +kernel
theorem d_X2_limb_36 : decode b_X2_limb 36 = .ok (.iload_n 1, 1) := by decide +kernel
theorem d_X2_limb_37 : decode b_X2_limb 37 = .ok (.iload_n 2, 1) := by decide +kernel
theorem d_X2_limb_38 : decode b_X2_limb 38 = .ok (.invokevirtual 76, 3) := by decide +kernel
theorem d_X2_limb_41 : decode b_X2_limb 41 = .ok (.ireturn, 1) := by decide +kernel
theorem d_X2_limb_42 : decode b_X2_limb 42 = .ok (.aload_n 0, 1) := by decide +kernel
theorem d_X2_limb_43 : decode b_X2_limb 43 = .ok (.iload_n 1, 1) := by decide +kernel
theorem d_X2_limb_44 : decode b_X2_limb 44 = .ok (.invokevirtual 79, 3) := by decide +kernel
theorem d_X2_limb_47 : decode b_X2_limb 47 = .ok (.ifCond .ge 7, 3) := by decide +kernel
theorem d_X2_limb_50 : decode b_X2_limb 50 = .ok (.iconst (-1), 1) := by decide +kernel
theorem d_X2_limb_51 : decode b_X2_limb 51 = .ok (.goto 4, 3) := by decide +kernel
theorem d_X2_limb_54 : decode b_X2_limb 54 = .ok (.iconst 0, 1) := by decide +kernel
theorem d_X2_limb_55 : decode b_X2_limb 55 = .ok (.ireturn, 1) := by decide +kernel
theorem d_X2_signOf_0 : decode b_X2_signOf 0 = .ok (.aload_n 0, 1) := by decide +kernel
theorem d_X2_signOf_1 : decode b_X2_signOf 1 = .ok (.iconst 2, 1) := by decide +kernel
theorem d_X2_signOf_2 : decode b_X2_signOf 2 = .ok (.iload_n 1, 1) := by decide +kernel
theorem d_X2_signOf_3 : decode b_X2_signOf 3 = .ok (.invokevirtual 53, 3) := by decide +kernel
theorem d_X2_signOf_6 : decode b_X2_signOf 6 = .ok (.aload_n 0, 1) := by decide +kernel
theorem d_X2_signOf_7 : decode b_X2_signOf 7 = .ok (.getfield 17, 3) := by decide +kernel
theorem d_X2_signOf_10 : decode b_X2_signOf 10 = .ok (.iconst 2, 1) := by decide +kernel
theorem d_X2_signOf_11 : decode b_X2_signOf 11 = .ok (.iaload, 1) := by decide +kernel
theorem d_X2_signOf_12 : decode b_X2_signOf 12 = .ok (.ireturn, 1) := by decide +kernel
theorem d_X2_copy_0 : decode b_X2_copy 0 = .ok (.aload_n 0, 1) := by decide +kernel
theorem d_X2_copy_1 : decode b_X2_copy 1 = .ok (.iload_n 1, 1) := by decide +kernel
theorem d_X2_copy_2 : decode b_X2_copy 2 = .ok (.invokestatic 62, 3) := by decide +kernel
theorem d_X2_copy_5 : decode b_X2_copy 5 = .ok (.ifCond .eq 14, 3) := by decide +kernel
theorem d_X2_copy_8 : decode b_X2_copy 8 = .ok (.iload_n 2, 1) := by decide +kernel
theorem d_X2_copy_9 : decode b_X2_copy 9 = .ok (.invokestatic 62, 3) := by decide +kernel
theorem d_X2_copy_12 : decode b_X2_copy 12 = .ok (.ifCond .eq 7, 3) := by decide +kernel
theorem d_X2_copy_15 : decode b_X2_copy 15 = .ok (.iconst 0, 1) := by decide +kernel
theorem d_X2_copy_16 : decode b_X2_copy 16 = .ok (.goto 4, 3) := by decide +kernel
theorem d_X2_copy_19 : decode b_X2_copy 19 = .ok (.iconst 1, 1) := by decide +kernel
theorem d_X2_copy_20 : decode b_X2_copy 20 = .ok (.invokevirtual 65, 3) := by decide +kernel
theorem d_X2_copy_23 : decode b_X2_copy 23 = .ok (.ifCond .eq 5, 3) := by decide +kernel
theorem d_X2_copy_26 : decode b_X2_copy 26 = .ok (.iconst 0, 1) := by decide +kernel
theorem d_X2_copy_27 : decode b_X2_copy 27 = .ok (.ireturn, 1) := by decide +kernel
theorem d_X2_copy_28 : decode b_X2_copy 28 = .ok (.aload_n 0, 1) := by decide +kernel
theorem d_X2_copy_29 : decode b_X2_copy 29 = .ok (.iconst 0, 1) := by decide +kernel
theorem d_X2_copy_30 : decode b_X2_copy 30 = .ok (.iload_n 2, 1) := by decide +kernel
theorem d_X2_copy_31 : decode b_X2_copy 31 = .ok (.invokevirtual 53, 3) := by decide +kernel
theorem d_X2_copy_34 : decode b_X2_copy 34 = .ok (.aload_n 0, 1) := by decide +kernel
theorem d_X2_copy_35 : decode b_X2_copy 35 = .ok (.iload_n 1, 1) := by decide +kernel
theorem d_X2_copy_36 : decode b_X2_copy 36 = .ok (.iconst 0, 1) := by decide +kernel
theorem d_X2_copy_37 : decode b_X2_copy 37 = .ok (.invokevirtual 68, 3) := by decide +kernel
theorem d_X2_copy_40 : decode b_X2_copy 40 = .ok (.ireturn, 1) := by decide +kernel
theorem d_X2_add_0 : decode b_X2_add 0 = .ok (.aload_n 0, 1) := by decide +kernel
theorem d_X2_add_1 : decode b_X2_add 1 = .ok (.iload_n 1, 1) := by decide +kernel
theorem d_X2_add_2 : decode b_X2_add 2 = .ok (.iload_n 2, 1) := by decide +kernel
theorem d_X2_add_3 : decode b_X2_add 3 = .ok (.iconst 0, 1) := by decide +kernel
theorem d_X2_add_4 : decode b_X2_add 4 = .ok (.invokevirtual 89, 3) := by decide +kernel
theorem d_X2_add_7 : decode b_X2_add 7 = .ok (.ireturn, 1) := by decide +kernel
theorem d_X2_together_0 : decode b_X2_together 0 = .ok (.aload_n 0, 1) := by decide +kernel
theorem d_X2_together_1 : decode b_X2_together 1 = .ok (.iload_n 1, 1) := by decide +kernel
theorem d_X2_together_2 : decode b_X2_together 2 = .ok (.invokestatic 62, 3) := by decide +kernel
theorem d_X2_together_5 : decode b_X2_together 5 = .ok (.ifCond .eq 14, 3) := by decide +kernel
theorem d_X2_together_8 : decode b_X2_together 8 = .ok (.iload_n 2, 1) := by decide +kernel
theorem d_X2_together_9 : decode b_X2_together 9 = .ok (.invokestatic 62, 3) := by decide +kernel
theorem d_X2_together_12 : decode b_X2_together 12 = .ok (.ifCond .eq 7, 3) := by decide +kernel
theorem d_X2_together_15 : decode b_X2_together 15 = .ok (.iconst 0, 1) := by decide +kernel
theorem d_X2_together_16 : decode b_X2_together 16 = .ok (.goto 4, 3) := by decide +kernel
theorem d_X2_together_19 : decode b_X2_together 19 = .ok (.iconst 1, 1) := by decide +kernel
theorem d_X2_together_20 : decode b_X2_together 20 = .ok (.invokevirtual 65, 3) := by decide +kernel
theorem d_X2_together_23 : decode b_X2_together 23 = .ok (.ifCond .eq 5, 3) := by decide +kernel
theorem d_X2_together_26 : decode b_X2_together 26 = .ok (.iconst 0, 1) := by decide +kernel
theorem d_X2_together_27 : decode b_X2_together 27 = .ok (.ireturn, 1) := by decide +kernel
theorem d_X2_together_28 : decode b_X2_together 28 = .ok (.aload_n 0, 1) := by decide +kernel
theorem d_X2_together_29 : decode b_X2_together 29 = .ok (.iconst 0, 1) := by decide +kernel
theorem d_X2_together_30 : decode b_X2_together 30 = .ok (.iload_n 1, 1) := by decide +kernel
theorem d_X2_together_31 : decode b_X2_together 31 = .ok (.invokevirtual 53, 3) := by decide +kernel
theorem d_X2_together_34 : decode b_X2_together 34 = .ok (.aload_n 0, 1) := by decide +kernel
theorem d_X2_together_35 : decode b_X2_together 35 = .ok (.iconst 1, 1) := by decide +kernel
theorem d_X2_together_36 : decode b_X2_together 36 = .ok (.iload_n 2, 1) := by decide +kernel
theorem d_X2_together_37 : decode b_X2_together 37 = .ok (.invokevirtual 53, 3) := by decide +kernel
theorem d_X2_together_40 : decode b_X2_together 40 = .ok (.aload_n 0, 1) := by decide +kernel
theorem d_X2_together_41 : decode b_X2_together 41 = .ok (.iconst 0, 1) := by decide +kernel
theorem d_X2_together_42 : decode b_X2_together 42 = .ok (.iconst 1, 1) := by decide +kernel
theorem d_X2_together_43 : decode b_X2_together 43 = .ok (.iload_n 3, 1) := by decide +kernel
theorem d_X2_together_44 : decode b_X2_together 44 = .ok (.invokevirtual 82, 3) := by decide +kernel
theorem d_X2_together_47 : decode b_X2_together 47 = .ok (.aload_n 0, 1) := by decide +kernel
theorem d_X2_together_48 : decode b_X2_together 48 = .ok (.iload_n 1, 1) := by decide +kernel
theorem d_X2_together_49 : decode b_X2_together 49 = .ok (.iconst 0, 1) := by decide +kernel
theorem d_X2_together_50 : decode b_X2_together 50 = .ok (.invokevirtual 86, 3) := by decide +kernel
theorem d_X2_together_53 : decode b_X2_together 53 = .ok (.ireturn, 1) := by decide +kernel
theorem d_X2_combine_0 : decode b_X2_combine 0 = .ok (.iload_n 3, 1) := by decide +kernel
theorem d_X2_combine_1 : decode b_X2_combine 1 = .ok (.ifCond .eq 13, 3) := by decide +kernel
theorem d_X2_combine_4 : decode b_X2_combine 4 = .ok (.aload_n 0, 1) := by decide +kernel
theorem d_X2_combine_5 : decode b_X2_combine 5 = .ok (.getfield 17, 3) := by decide +kernel
theorem d_X2_combine_8 : decode b_X2_combine 8 = .ok (.iload_n 2, 1) := by decide +kernel
theorem d_X2_combine_9 : decode b_X2_combine 9 = .ok (.iaload, 1) := by decide +kernel
theorem d_X2_combine_10 : decode b_X2_combine 10 = .ok (.ineg, 1) := by decide +kernel
theorem d_X2_combine_11 : decode b_X2_combine 11 = .ok (.goto 9, 3) := by decide +kernel
theorem d_X2_combine_14 : decode b_X2_combine 14 = .ok (.aload_n 0, 1) := by decide +kernel
theorem d_X2_combine_15 : decode b_X2_combine 15 = .ok (.getfield 17, 3) := by decide +kernel
theorem d_X2_combine_18 : decode b_X2_combine 18 = .ok (.iload_n 2, 1) := by decide +kernel
theorem d_X2_combine_19 : decode b_X2_combine 19 = .ok (.iaload, 1) := by decide +kernel
theorem d_X2_combine_20 : decode b_X2_combine 20 = .ok (.istore 4, 2) := by decide +kernel
theorem d_X2_combine_22 : decode b_X2_combine 22 = .ok (.aload_n 0, 1) := by decide +kernel
theorem d_X2_combine_23 : decode b_X2_combine 23 = .ok (.getfield 17, 3) := by decide +kernel
theorem d_X2_combine_26 : decode b_X2_combine 26 = .ok (.iload_n 1, 1) := by decide +kernel
theorem d_X2_combine_27 : decode b_X2_combine 27 = .ok (.iaload, 1) := by decide +kernel
theorem d_X2_combine_28 : decode b_X2_combine 28 = .ok (.ifCond .eq 19, 3) := by decide +kernel
theorem d_X2_combine_31 : decode b_X2_combine 31 = .ok (.iload 4, 2) := by decide +kernel
theorem d_X2_combine_33 : decode b_X2_combine 33 = .ok (.ifCond .eq 14, 3) := by decide +kernel
theorem d_X2_combine_36 : decode b_X2_combine 36 = .ok (.aload_n 0, 1) := by decide +kernel
theorem d_X2_combine_37 : decode b_X2_combine 37 = .ok (.getfield 17, 3) := by decide +kernel
theorem d_X2_combine_40 : decode b_X2_combine 40 = .ok (.iload_n 1, 1) := by decide +kernel
theorem d_X2_combine_41 : decode b_X2_combine 41 = .ok (.iaload, 1) := by decide +kernel
theorem d_X2_combine_42 : decode b_X2_combine 42 = .ok (.iload 4, 2) := by decide +kernel
theorem d_X2_combine_44 : decode b_X2_combine 44 = .ok (.if_icmp .ne 107, 3) := by decide +kernel
theorem d_X2_combine_47 : decode b_X2_combine 47 = .ok (.iconst 0, 1) := by decide +kernel
theorem d_X2_combine_48 : decode b_X2_combine 48 = .ok (.istore 5, 2) := by decide +kernel
theorem d_X2_combine_50 : decode b_X2_combine 50 = .ok (.iconst 0, 1) := by decide +kernel
theorem d_X2_combine_51 : decode b_X2_combine 51 = .ok (.istore 6, 2) := by decide +kernel
theorem d_X2_combine_53 : decode b_X2_combine 53 = .ok (.iload 6, 2) := by decide +kernel
theorem d_X2_combine_55 : decode b_X2_combine 55 = .ok (.sipush 1100, 3) := by decide +kernel
theorem d_X2_combine_58 : decode b_X2_combine 58 = .ok (.if_icmp .ge 66, 3) := by decide +kernel
theorem d_X2_combine_61 : decode b_X2_combine 61 = .ok (.aload_n 0, 1) := by decide +kernel
theorem d_X2_combine_62 : decode b_X2_combine 62 = .ok (.getfield 20, 3) := by decide +kernel
theorem d_X2_combine_65 : decode b_X2_combine 65 = .ok (.sipush 1100, 3) := by decide +kernel
theorem d_X2_combine_68 : decode b_X2_combine 68 = .ok (.iload_n 1, 1) := by decide +kernel
theorem d_X2_combine_69 : decode b_X2_combine 69 = .ok (.imul, 1) := by decide +kernel
theorem d_X2_combine_70 : decode b_X2_combine 70 = .ok (.iload 6, 2) := by decide +kernel
theorem d_X2_combine_72 : decode b_X2_combine 72 = .ok (.iadd, 1) := by decide +kernel
theorem d_X2_combine_73 : decode b_X2_combine 73 = .ok (.iaload, 1) := by decide +kernel
theorem d_X2_combine_74 : decode b_X2_combine 74 = .ok (.aload_n 0, 1) := by decide +kernel
theorem d_X2_combine_75 : decode b_X2_combine 75 = .ok (.getfield 20, 3) := by decide +kernel
theorem d_X2_combine_78 : decode b_X2_combine 78 = .ok (.sipush 1100, 3) := by decide +kernel
theorem d_X2_combine_81 : decode b_X2_combine 81 = .ok (.iload_n 2, 1) := by decide +kernel
theorem d_X2_combine_82 : decode b_X2_combine 82 = .ok (.imul, 1) := by decide +kernel
theorem d_X2_combine_83 : decode b_X2_combine 83 = .ok (.iload 6, 2) := by decide +kernel
theorem d_X2_combine_85 : decode b_X2_combine 85 = .ok (.iadd, 1) := by decide +kernel
theorem d_X2_combine_86 : decode b_X2_combine 86 = .ok (.iaload, 1) := by decide +kernel
theorem d_X2_combine_87 : decode b_X2_combine 87 = .ok (.iadd, 1) := by decide +kernel
theorem d_X2_combine_88 : decode b_X2_combine 88 = .ok (.iload 5, 2) := by decide +kernel
theorem d_X2_combine_90 : decode b_X2_combine 90 = .ok (.iadd, 1) := by decide +kernel
theorem d_X2_combine_91 : decode b_X2_combine 91 = .ok (.istore 7, 2) := by decide +kernel
theorem d_X2_combine_93 : decode b_X2_combine 93 = .ok (.aload_n 0, 1) := by decide +kernel
theorem d_X2_combine_94 : decode b_X2_combine 94 = .ok (.getfield 20, 3) := by decide +kernel
theorem d_X2_combine_97 : decode b_X2_combine 97 = .ok (.sipush 1100, 3) := by decide +kernel
theorem d_X2_combine_100 : decode b_X2_combine 100 = .ok (.iload_n 1, 1) := by decide +kernel
theorem d_X2_combine_101 : decode b_X2_combine 101 = .ok (.imul, 1) := by decide +kernel
theorem d_X2_combine_102 : decode b_X2_combine 102 = .ok (.iload 6, 2) := by decide +kernel
theorem d_X2_combine_104 : decode b_X2_combine 104 = .ok (.iadd, 1) := by decide +kernel
theorem d_X2_combine_105 : decode b_X2_combine 105 = .ok (.iload 7, 2) := by decide +kernel
theorem d_X2_combine_107 : decode b_X2_combine 107 = .ok (.ldc 32, 2) := by decide +kernel
theorem d_X2_combine_109 : decode b_X2_combine 109 = .ok (.irem, 1) := by decide +kernel
theorem d_X2_combine_110 : decode b_X2_combine 110 = .ok (.iastore, 1) := by decide +kernel
theorem d_X2_combine_111 : decode b_X2_combine 111 = .ok (.iload 7, 2) := by decide +kernel
theorem d_X2_combine_113 : decode b_X2_combine 113 = .ok (.ldc 32, 2) := by decide +kernel
theorem d_X2_combine_115 : decode b_X2_combine 115 = .ok (.idiv, 1) := by decide +kernel
theorem d_X2_combine_116 : decode b_X2_combine 116 = .ok (.istore 5, 2) := by decide +kernel
theorem d_X2_combine_118 : decode b_X2_combine 118 = .ok (.iinc 6 1, 3) := by decide +kernel
theorem d_X2_combine_121 : decode b_X2_combine 121 = .ok (.goto (-68), 3) := by decide +kernel
theorem d_X2_combine_124 : decode b_X2_combine 124 = .ok (.aload_n 0, 1) := by decide +kernel
theorem d_X2_combine_125 : decode b_X2_combine 125 = .ok (.getfield 17, 3) := by decide +kernel
theorem d_X2_combine_128 : decode b_X2_combine 128 = .ok (.iload_n 1, 1) := by decide +kernel
theorem d_X2_combine_129 : decode b_X2_combine 129 = .ok (.aload_n 0, 1) := by decide +kernel
theorem d_X2_combine_130 : decode b_X2_combine 130 = .ok (.getfield 17, 3) := by decide +kernel
theorem d_X2_combine_133 : decode b_X2_combine 133 = .ok (.iload_n 1, 1) := by decide +kernel
theorem d_X2_combine_134 : decode b_X2_combine 134 = .ok (.iaload, 1) := by decide +kernel
theorem d_X2_combine_135 : decode b_X2_combine 135 = .ok (.ifCond .ne 8, 3) := by decide +kernel
theorem d_X2_combine_138 : decode b_X2_combine 138 = .ok (.iload 4, 2) := by decide +kernel
theorem d_X2_combine_140 : decode b_X2_combine 140 = .ok (.goto 9, 3) := by decide +kernel
theorem d_X2_combine_143 : decode b_X2_combine 143 = .ok (.aload_n 0, 1) := by decide +kernel
theorem d_X2_combine_144 : decode b_X2_combine 144 = .ok (.getfield 17, 3) := by decide +kernel
theorem d_X2_combine_147 : decode b_X2_combine 147 = .ok (.iload_n 1, 1) := by decide +kernel
theorem d_X2_combine_148 : decode b_X2_combine 148 = .ok (.iaload, 1) := by decide +kernel
theorem d_X2_combine_149 : decode b_X2_combine 149 = .ok (.iastore, 1) := by decide +kernel
theorem d_X2_combine_150 : decode b_X2_combine 150 = .ok (.return_, 1) := by decide +kernel
theorem d_X2_combine_151 : decode b_X2_combine 151 = .ok (.aload_n 0, 1) := by decide +kernel
theorem d_X2_combine_152 : decode b_X2_combine 152 = .ok (.iload_n 1, 1) := by decide +kernel
theorem d_X2_combine_153 : decode b_X2_combine 153 = .ok (.iload_n 2, 1) := by decide +kernel
theorem d_X2_combine_154 : decode b_X2_combine 154 = .ok (.invokevirtual 57, 3) := by decide +kernel
theorem d_X2_combine_157 : decode b_X2_combine 157 = .ok (.istore 5, 2) := by decide +kernel
theorem d_X2_combine_159 : decode b_X2_combine 159 = .ok (.iconst 0, 1) := by decide +kernel
theorem d_X2_combine_160 : decode b_X2_combine 160 = .ok (.istore 6, 2) := by decide +kernel
theorem d_X2_combine_162 : decode b_X2_combine 162 = .ok (.iconst 0, 1) := by decide +kernel
theorem d_X2_combine_163 : decode b_X2_combine 163 = .ok (.istore 7, 2) := by decide +kernel
theorem d_X2_combine_165 : decode b_X2_combine 165 = .ok (.iload 7, 2) := by decide +kernel
theorem d_X2_combine_167 : decode b_X2_combine 167 = .ok (.sipush 1100, 3) := by decide +kernel
theorem d_X2_combine_170 : decode b_X2_combine 170 = .ok (.if_icmp .ge 102, 3) := by decide +kernel
theorem d_X2_combine_173 : decode b_X2_combine 173 = .ok (.aload_n 0, 1) := by decide +kernel
theorem d_X2_combine_174 : decode b_X2_combine 174 = .ok (.getfield 20, 3) := by decide +kernel
theorem d_X2_combine_177 : decode b_X2_combine 177 = .ok (.sipush 1100, 3) := by decide +kernel
theorem d_X2_combine_180 : decode b_X2_combine 180 = .ok (.iload_n 1, 1) := by decide +kernel
theorem d_X2_combine_181 : decode b_X2_combine 181 = .ok (.imul, 1) := by decide +kernel
theorem d_X2_combine_182 : decode b_X2_combine 182 = .ok (.iload 7, 2) := by decide +kernel
theorem d_X2_combine_184 : decode b_X2_combine 184 = .ok (.iadd, 1) := by decide +kernel
theorem d_X2_combine_185 : decode b_X2_combine 185 = .ok (.iaload, 1) := by decide +kernel
theorem d_X2_combine_186 : decode b_X2_combine 186 = .ok (.istore 8, 2) := by decide +kernel
theorem d_X2_combine_188 : decode b_X2_combine 188 = .ok (.aload_n 0, 1) := by decide +kernel
theorem d_X2_combine_189 : decode b_X2_combine 189 = .ok (.getfield 20, 3) := by decide +kernel
theorem d_X2_combine_192 : decode b_X2_combine 192 = .ok (.sipush 1100, 3) := by decide +kernel
theorem d_X2_combine_195 : decode b_X2_combine 195 = .ok (.iload_n 2, 1) := by decide +kernel
theorem d_X2_combine_196 : decode b_X2_combine 196 = .ok (.imul, 1) := by decide +kernel
theorem d_X2_combine_197 : decode b_X2_combine 197 = .ok (.iload 7, 2) := by decide +kernel
theorem d_X2_combine_199 : decode b_X2_combine 199 = .ok (.iadd, 1) := by decide +kernel
theorem d_X2_combine_200 : decode b_X2_combine 200 = .ok (.iaload, 1) := by decide +kernel
theorem d_X2_combine_201 : decode b_X2_combine 201 = .ok (.istore 9, 2) := by decide +kernel
theorem d_X2_combine_203 : decode b_X2_combine 203 = .ok (.iload 5, 2) := by decide +kernel
theorem d_X2_combine_205 : decode b_X2_combine 205 = .ok (.ifCond .ge 11, 3) := by decide +kernel
theorem d_X2_combine_208 : decode b_X2_combine 208 = .ok (.iload 9, 2) := by decide +kernel
theorem d_X2_combine_210 : decode b_X2_combine 210 = .ok (.iload 8, 2) := by decide +kernel
theorem d_X2_combine_212 : decode b_X2_combine 212 = .ok (.isub, 1) := by decide +kernel
theorem d_X2_combine_213 : decode b_X2_combine 213 = .ok (.goto 8, 3) := by decide +kernel
theorem d_X2_combine_216 : decode b_X2_combine 216 = .ok (.iload 8, 2) := by decide +kernel
theorem d_X2_combine_218 : decode b_X2_combine 218 = .ok (.iload 9, 2) := by decide +kernel
theorem d_X2_combine_220 : decode b_X2_combine 220 = .ok (.isub, 1) := by decide +kernel
theorem d_X2_combine_221 : decode b_X2_combine 221 = .ok (.iload 6, 2) := by decide +kernel
theorem d_X2_combine_223 : decode b_X2_combine 223 = .ok (.isub, 1) := by decide +kernel
theorem d_X2_combine_224 : decode b_X2_combine 224 = .ok (.istore 10, 2) := by decide +kernel
theorem d_X2_combine_226 : decode b_X2_combine 226 = .ok (.iload 10, 2) := by decide +kernel
theorem d_X2_combine_228 : decode b_X2_combine 228 = .ok (.ifCond .ge 7, 3) := by decide +kernel
theorem d_X2_combine_231 : decode b_X2_combine 231 = .ok (.iconst 1, 1) := by decide +kernel
theorem d_X2_combine_232 : decode b_X2_combine 232 = .ok (.goto 4, 3) := by decide +kernel
theorem d_X2_combine_235 : decode b_X2_combine 235 = .ok (.iconst 0, 1) := by decide +kernel
theorem d_X2_combine_236 : decode b_X2_combine 236 = .ok (.istore 6, 2) := by decide +kernel
theorem d_X2_combine_238 : decode b_X2_combine 238 = .ok (.aload_n 0, 1) := by decide +kernel
theorem d_X2_combine_239 : decode b_X2_combine 239 = .ok (.getfield 20, 3) := by decide +kernel
theorem d_X2_combine_242 : decode b_X2_combine 242 = .ok (.sipush 1100, 3) := by decide +kernel
theorem d_X2_combine_245 : decode b_X2_combine 245 = .ok (.iload_n 1, 1) := by decide +kernel
theorem d_X2_combine_246 : decode b_X2_combine 246 = .ok (.imul, 1) := by decide +kernel
theorem d_X2_combine_247 : decode b_X2_combine 247 = .ok (.iload 7, 2) := by decide +kernel
theorem d_X2_combine_249 : decode b_X2_combine 249 = .ok (.iadd, 1) := by decide +kernel
theorem d_X2_combine_250 : decode b_X2_combine 250 = .ok (.iload 10, 2) := by decide +kernel
theorem d_X2_combine_252 : decode b_X2_combine 252 = .ok (.ifCond .ge 11, 3) := by decide +kernel
theorem d_X2_combine_255 : decode b_X2_combine 255 = .ok (.iload 10, 2) := by decide +kernel
theorem d_X2_combine_257 : decode b_X2_combine 257 = .ok (.ldc 32, 2) := by decide +kernel
theorem d_X2_combine_259 : decode b_X2_combine 259 = .ok (.iadd, 1) := by decide +kernel
theorem d_X2_combine_260 : decode b_X2_combine 260 = .ok (.goto 5, 3) := by decide +kernel
theorem d_X2_combine_263 : decode b_X2_combine 263 = .ok (.iload 10, 2) := by decide +kernel
theorem d_X2_combine_265 : decode b_X2_combine 265 = .ok (.iastore, 1) := by decide +kernel
theorem d_X2_combine_266 : decode b_X2_combine 266 = .ok (.iinc 7 1, 3) := by decide +kernel
theorem d_X2_combine_269 : decode b_X2_combine 269 = .ok (.goto (-104), 3) := by decide +kernel
theorem d_X2_combine_272 : decode b_X2_combine 272 = .ok (.aload_n 0, 1) := by decide +kernel
theorem d_X2_combine_273 : decode b_X2_combine 273 = .ok (.getfield 17, 3) := by decide +kernel
theorem d_X2_combine_276 : decode b_X2_combine 276 = .ok (.iload_n 1, 1) := by decide +kernel
theorem d_X2_combine_277 : decode b_X2_combine 277 = .ok (.iload 5, 2) := by decide +kernel
theorem d_X2_combine_279 : decode b_X2_combine 279 = .ok (.ifCond .ne 7, 3) := by decide +kernel
theorem d_X2_combine_282 : decode b_X2_combine 282 = .ok (.iconst 0, 1) := by decide +kernel
theorem d_X2_combine_283 : decode b_X2_combine 283 = .ok (.goto 19, 3) := by decide +kernel
theorem d_X2_combine_286 : decode b_X2_combine 286 = .ok (.iload 5, 2) := by decide +kernel
theorem d_X2_combine_288 : decode b_X2_combine 288 = .ok (.ifCond .ge 8, 3) := by decide +kernel
theorem d_X2_combine_291 : decode b_X2_combine 291 = .ok (.iload 4, 2) := by decide +kernel
theorem d_X2_combine_293 : decode b_X2_combine 293 = .ok (.goto 9, 3) := by decide +kernel
theorem d_X2_combine_296 : decode b_X2_combine 296 = .ok (.aload_n 0, 1) := by decide +kernel
theorem d_X2_combine_297 : decode b_X2_combine 297 = .ok (.getfield 17, 3) := by decide +kernel
theorem d_X2_combine_300 : decode b_X2_combine 300 = .ok (.iload_n 1, 1) := by decide +kernel
theorem d_X2_combine_301 : decode b_X2_combine 301 = .ok (.iaload, 1) := by decide +kernel
theorem d_X2_combine_302 : decode b_X2_combine 302 = .ok (.iastore, 1) := by decide +kernel
theorem d_X2_combine_303 : decode b_X2_combine 303 = .ok (.return_, 1) := by decide +kernel
theorem d_X2_compareSizes_0 : decode b_X2_compareSizes 0 = .ok (.sipush 1099, 3) := by decide +kernel
theorem d_X2_compareSizes_3 : decode b_X2_compareSizes 3 = .ok (.istore_n 3, 1) := by decide +kernel
theorem d_X2_compareSizes_4 : decode b_X2_compareSizes 4 = .ok (.iload_n 3, 1) := by decide +kernel
