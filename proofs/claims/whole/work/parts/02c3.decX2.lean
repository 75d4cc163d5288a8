theorem d_X2_halve_2 : decode b_X2_halve 2 = .ok (.invokevirtual 27, 3) := by decide +kernel
theorem d_X2_halve_5 : decode b_X2_halve 5 = .ok (.aload_n 0, 1) := by decide +kernel
theorem d_X2_halve_6 : decode b_X2_halve 6 = .ok (.iconst 0, 1) := by decide +kernel
theorem d_X2_halve_7 : decode b_X2_halve 7 = .ok (.invokevirtual 43, 3) := by decide +kernel
theorem d_X2_halve_10 : decode b_X2_halve 10 = .ok (.istore_n 3, 1) := by decide +kernel
theorem d_X2_halve_11 : decode b_X2_halve 11 = .ok (.iload_n 1, 1) := by decide +kernel
theorem d_X2_halve_12 : decode b_X2_halve 12 = .ok (.istore 4, 2) := by decide +kernel
theorem d_X2_halve_14 : decode b_X2_halve 14 = .ok (.iload 4, 2) := by decide +kernel
theorem d_X2_halve_16 : decode b_X2_halve 16 = .ok (.iload_n 3, 1) := by decide +kernel
theorem d_X2_halve_17 : decode b_X2_halve 17 = .ok (.if_icmp .ge 57, 3) := by decide +kernel
theorem d_X2_halve_20 : decode b_X2_halve 20 = .ok (.aload_n 0, 1) := by decide +kernel
theorem d_X2_halve_21 : decode b_X2_halve 21 = .ok (.getfield 20, 3) := by decide +kernel
theorem d_X2_halve_24 : decode b_X2_halve 24 = .ok (.sipush 1100, 3) := by decide +kernel
theorem d_X2_halve_27 : decode b_X2_halve 27 = .ok (.iload 4, 2) := by decide +kernel
theorem d_X2_halve_29 : decode b_X2_halve 29 = .ok (.iload_n 1, 1) := by decide +kernel
theorem d_X2_halve_30 : decode b_X2_halve 30 = .ok (.isub, 1) := by decide +kernel
theorem d_X2_halve_31 : decode b_X2_halve 31 = .ok (.bipush 16, 2) := by decide +kernel
theorem d_X2_halve_33 : decode b_X2_halve 33 = .ok (.idiv, 1) := by decide +kernel
theorem d_X2_halve_34 : decode b_X2_halve 34 = .ok (.iadd, 1) := by decide +kernel
theorem d_X2_halve_35 : decode b_X2_halve 35 = .ok (.aload_n 0, 1) := by decide +kernel
theorem d_X2_halve_36 : decode b_X2_halve 36 = .ok (.getfield 20, 3) := by decide +kernel
theorem d_X2_halve_39 : decode b_X2_halve 39 = .ok (.sipush 1100, 3) := by decide +kernel
theorem d_X2_halve_42 : decode b_X2_halve 42 = .ok (.iload 4, 2) := by decide +kernel
theorem d_X2_halve_44 : decode b_X2_halve 44 = .ok (.iload_n 1, 1) := by decide +kernel
theorem d_X2_halve_45 : decode b_X2_halve 45 = .ok (.isub, 1) := by decide +kernel
theorem d_X2_halve_46 : decode b_X2_halve 46 = .ok (.bipush 16, 2) := by decide +kernel
theorem d_X2_halve_48 : decode b_X2_halve 48 = .ok (.idiv, 1) := by decide +kernel
theorem d_X2_halve_49 : decode b_X2_halve 49 = .ok (.iadd, 1) := by decide +kernel
theorem d_X2_halve_50 : decode b_X2_halve 50 = .ok (.iaload, 1) := by decide +kernel
theorem d_X2_halve_51 : decode b_X2_halve 51 = .ok (.aload_n 0, 1) := by decide +kernel
theorem d_X2_halve_52 : decode b_X2_halve 52 = .ok (.iconst 0, 1) := by decide +kernel
theorem d_X2_halve_53 : decode b_X2_halve 53 = .ok (.iload 4, 2) := by decide +kernel
theorem d_X2_halve_55 : decode b_X2_halve 55 = .ok (.invokevirtual 39, 3) := by decide +kernel
theorem d_X2_halve_58 : decode b_X2_halve 58 = .ok (.iload 4, 2) := by decide +kernel
theorem d_X2_halve_60 : decode b_X2_halve 60 = .ok (.iload_n 1, 1) := by decide +kernel
theorem d_X2_halve_61 : decode b_X2_halve 61 = .ok (.isub, 1) := by decide +kernel
theorem d_X2_halve_62 : decode b_X2_halve 62 = .ok (.bipush 16, 2) := by decide +kernel
theorem d_X2_halve_64 : decode b_X2_halve 64 = .ok (.irem, 1) := by decide +kernel
theorem d_X2_halve_65 : decode b_X2_halve 65 = .ok (.ishl, 1) := by decide +kernel
theorem d_X2_halve_66 : decode b_X2_halve 66 = .ok (.ior, 1) := by decide +kernel
theorem d_X2_halve_67 : decode b_X2_halve 67 = .ok (.iastore, 1) := by decide +kernel
theorem d_X2_halve_68 : decode b_X2_halve 68 = .ok (.iinc 4 1, 3) := by decide +kernel
theorem d_X2_halve_71 : decode b_X2_halve 71 = .ok (.goto (-57), 3) := by decide +kernel
theorem d_X2_halve_74 : decode b_X2_halve 74 = .ok (.aload_n 0, 1) := by decide +kernel
theorem d_X2_halve_75 : decode b_X2_halve 75 = .ok (.getfield 17, 3) := by decide +kernel
theorem d_X2_halve_78 : decode b_X2_halve 78 = .ok (.iconst 1, 1) := by decide +kernel
theorem d_X2_halve_79 : decode b_X2_halve 79 = .ok (.iload_n 3, 1) := by decide +kernel
theorem d_X2_halve_80 : decode b_X2_halve 80 = .ok (.iload_n 1, 1) := by decide +kernel
theorem d_X2_halve_81 : decode b_X2_halve 81 = .ok (.if_icmp .le 12, 3) := by decide +kernel
theorem d_X2_halve_84 : decode b_X2_halve 84 = .ok (.aload_n 0, 1) := by decide +kernel
theorem d_X2_halve_85 : decode b_X2_halve 85 = .ok (.getfield 17, 3) := by decide +kernel
theorem d_X2_halve_88 : decode b_X2_halve 88 = .ok (.iconst 0, 1) := by decide +kernel
theorem d_X2_halve_89 : decode b_X2_halve 89 = .ok (.iaload, 1) := by decide +kernel
theorem d_X2_halve_90 : decode b_X2_halve 90 = .ok (.goto 4, 3) := by decide +kernel
theorem d_X2_halve_93 : decode b_X2_halve 93 = .ok (.iconst 0, 1) := by decide +kernel
theorem d_X2_halve_94 : decode b_X2_halve 94 = .ok (.iastore, 1) := by decide +kernel
theorem d_X2_halve_95 : decode b_X2_halve 95 = .ok (.iload_n 2, 1) := by decide +kernel
theorem d_X2_halve_96 : decode b_X2_halve 96 = .ok (.ifCond .eq 26, 3) := by decide +kernel
theorem d_X2_halve_99 : decode b_X2_halve 99 = .ok (.aload_n 0, 1) := by decide +kernel
theorem d_X2_halve_100 : decode b_X2_halve 100 = .ok (.getfield 17, 3) := by decide +kernel
theorem d_X2_halve_103 : decode b_X2_halve 103 = .ok (.iconst 0, 1) := by decide +kernel
theorem d_X2_halve_104 : decode b_X2_halve 104 = .ok (.iaload, 1) := by decide +kernel
theorem d_X2_halve_105 : decode b_X2_halve 105 = .ok (.istore 4, 2) := by decide +kernel
theorem d_X2_halve_107 : decode b_X2_halve 107 = .ok (.aload_n 0, 1) := by decide +kernel
theorem d_X2_halve_108 : decode b_X2_halve 108 = .ok (.iconst 2, 1) := by decide +kernel
theorem d_X2_halve_109 : decode b_X2_halve 109 = .ok (.iload 4, 2) := by decide +kernel
theorem d_X2_halve_111 : decode b_X2_halve 111 = .ok (.i2l, 1) := by decide +kernel
theorem d_X2_halve_112 : decode b_X2_halve 112 = .ok (.invokevirtual 72, 3) := by decide +kernel
theorem d_X2_halve_115 : decode b_X2_halve 115 = .ok (.aload_n 0, 1) := by decide +kernel
theorem d_X2_halve_116 : decode b_X2_halve 116 = .ok (.iconst 1, 1) := by decide +kernel
theorem d_X2_halve_117 : decode b_X2_halve 117 = .ok (.iconst 2, 1) := by decide +kernel
theorem d_X2_halve_118 : decode b_X2_halve 118 = .ok (.iconst 0, 1) := by decide +kernel
theorem d_X2_halve_119 : decode b_X2_halve 119 = .ok (.invokevirtual 82, 3) := by decide +kernel
theorem d_X2_halve_122 : decode b_X2_halve 122 = .ok (.return_, 1) := by decide +kernel
theorem d_X2_nearest_0 : decode b_X2_nearest 0 = .ok (.aload_n 0, 1) := by decide +kernel
theorem d_X2_nearest_1 : decode b_X2_nearest 1 = .ok (.iload_n 1, 1) := by decide +kernel
theorem d_X2_nearest_2 : decode b_X2_nearest 2 = .ok (.invokestatic 62, 3) := by decide +kernel
theorem d_X2_nearest_5 : decode b_X2_nearest 5 = .ok (.ifCond .ne 7, 3) := by decide +kernel
theorem d_X2_nearest_8 : decode b_X2_nearest 8 = .ok (.iconst 1, 1) := by decide +kernel
theorem d_X2_nearest_9 : decode b_X2_nearest 9 = .ok (.goto 19, 3) := by decide +kernel
theorem d_X2_nearest_12 : decode b_X2_nearest 12 = .ok (.iload_n 2, 1) := by decide +kernel
theorem d_X2_nearest_13 : decode b_X2_nearest 13 = .ok (.ifCond .lt 10, 3) := by decide +kernel
theorem d_X2_nearest_16 : decode b_X2_nearest 16 = .ok (.iload_n 2, 1) := by decide +kernel
theorem d_X2_nearest_17 : decode b_X2_nearest 17 = .ok (.sipush 8192, 3) := by decide +kernel
theorem d_X2_nearest_20 : decode b_X2_nearest 20 = .ok (.if_icmp .le 7, 3) := by decide +kernel
theorem d_X2_nearest_23 : decode b_X2_nearest 23 = .ok (.iconst 2, 1) := by decide +kernel
theorem d_X2_nearest_24 : decode b_X2_nearest 24 = .ok (.goto 4, 3) := by decide +kernel
theorem d_X2_nearest_27 : decode b_X2_nearest 27 = .ok (.iconst 0, 1) := by decide +kernel
theorem d_X2_nearest_28 : decode b_X2_nearest 28 = .ok (.invokevirtual 65, 3) := by decide +kernel
theorem d_X2_nearest_31 : decode b_X2_nearest 31 = .ok (.ifCond .eq 5, 3) := by decide +kernel
theorem d_X2_nearest_34 : decode b_X2_nearest 34 = .ok (.iconst 0, 1) := by decide +kernel
theorem d_X2_nearest_35 : decode b_X2_nearest 35 = .ok (.ireturn, 1) := by decide +kernel
theorem d_X2_nearest_36 : decode b_X2_nearest 36 = .ok (.aload_n 0, 1) := by decide +kernel
theorem d_X2_nearest_37 : decode b_X2_nearest 37 = .ok (.iconst 0, 1) := by decide +kernel
theorem d_X2_nearest_38 : decode b_X2_nearest 38 = .ok (.iload_n 1, 1) := by decide +kernel
theorem d_X2_nearest_39 : decode b_X2_nearest 39 = .ok (.invokevirtual 53, 3) := by decide +kernel
theorem d_X2_nearest_42 : decode b_X2_nearest 42 = .ok (.iload_n 2, 1) := by decide +kernel
theorem d_X2_nearest_43 : decode b_X2_nearest 43 = .ok (.ifCond .le 28, 3) := by decide +kernel
theorem d_X2_nearest_46 : decode b_X2_nearest 46 = .ok (.aload_n 0, 1) := by decide +kernel
theorem d_X2_nearest_47 : decode b_X2_nearest 47 = .ok (.getfield 17, 3) := by decide +kernel
theorem d_X2_nearest_50 : decode b_X2_nearest 50 = .ok (.iconst 0, 1) := by decide +kernel
theorem d_X2_nearest_51 : decode b_X2_nearest 51 = .ok (.iaload, 1) := by decide +kernel
theorem d_X2_nearest_52 : decode b_X2_nearest 52 = .ok (.ifCond .eq 19, 3) := by decide +kernel
theorem d_X2_nearest_55 : decode b_X2_nearest 55 = .ok (.aload_n 0, 1) := by decide +kernel
theorem d_X2_nearest_56 : decode b_X2_nearest 56 = .ok (.iconst 0, 1) := by decide +kernel
theorem d_X2_nearest_57 : decode b_X2_nearest 57 = .ok (.iload_n 2, 1) := by decide +kernel
theorem d_X2_nearest_58 : decode b_X2_nearest 58 = .ok (.iconst 1, 1) := by decide +kernel
theorem d_X2_nearest_59 : decode b_X2_nearest 59 = .ok (.isub, 1) := by decide +kernel
theorem d_X2_nearest_60 : decode b_X2_nearest 60 = .ok (.invokevirtual 39, 3) := by decide +kernel
theorem d_X2_nearest_63 : decode b_X2_nearest 63 = .ok (.iconst 1, 1) := by decide +kernel
theorem d_X2_nearest_64 : decode b_X2_nearest 64 = .ok (.if_icmp .ne 7, 3) := by decide +kernel
theorem d_X2_nearest_67 : decode b_X2_nearest 67 = .ok (.iconst 1, 1) := by decide +kernel
theorem d_X2_nearest_68 : decode b_X2_nearest 68 = .ok (.goto 4, 3) := by decide +kernel
theorem d_X2_nearest_71 : decode b_X2_nearest 71 = .ok (.iconst 0, 1) := by decide +kernel
theorem d_X2_nearest_72 : decode b_X2_nearest 72 = .ok (.istore_n 3, 1) := by decide +kernel
theorem d_X2_nearest_73 : decode b_X2_nearest 73 = .ok (.iload_n 3, 1) := by decide +kernel
theorem d_X2_nearest_74 : decode b_X2_nearest 74 = .ok (.ifCond .eq 28, 3) := by decide +kernel
theorem d_X2_nearest_77 : decode b_X2_nearest 77 = .ok (.aload_n 0, 1) := by decide +kernel
theorem d_X2_nearest_78 : decode b_X2_nearest 78 = .ok (.iconst 0, 1) := by decide +kernel
theorem d_X2_nearest_79 : decode b_X2_nearest 79 = .ok (.invokevirtual 47, 3) := by decide +kernel
theorem d_X2_nearest_82 : decode b_X2_nearest 82 = .ok (.iload_n 2, 1) := by decide +kernel
theorem d_X2_nearest_83 : decode b_X2_nearest 83 = .ok (.iconst 1, 1) := by decide +kernel
theorem d_X2_nearest_84 : decode b_X2_nearest 84 = .ok (.isub, 1) := by decide +kernel
theorem d_X2_nearest_85 : decode b_X2_nearest 85 = .ok (.if_icmp .lt 13, 3) := by decide +kernel
theorem d_X2_nearest_88 : decode b_X2_nearest 88 = .ok (.aload_n 0, 1) := by decide +kernel
theorem d_X2_nearest_89 : decode b_X2_nearest 89 = .ok (.iconst 0, 1) := by decide +kernel
theorem d_X2_nearest_90 : decode b_X2_nearest 90 = .ok (.iload_n 2, 1) := by decide +kernel
theorem d_X2_nearest_91 : decode b_X2_nearest 91 = .ok (.invokevirtual 39, 3) := by decide +kernel
theorem d_X2_nearest_94 : decode b_X2_nearest 94 = .ok (.iconst 1, 1) := by decide +kernel
theorem d_X2_nearest_95 : decode b_X2_nearest 95 = .ok (.if_icmp .ne 7, 3) := by decide +kernel
theorem d_X2_nearest_98 : decode b_X2_nearest 98 = .ok (.iconst 1, 1) := by decide +kernel
theorem d_X2_nearest_99 : decode b_X2_nearest 99 = .ok (.goto 4, 3) := by decide +kernel
theorem d_X2_nearest_102 : decode b_X2_nearest 102 = .ok (.iconst 0, 1) := by decide +kernel
theorem d_X2_nearest_103 : decode b_X2_nearest 103 = .ok (.istore 4, 2) := by decide +kernel
theorem d_X2_nearest_105 : decode b_X2_nearest 105 = .ok (.aload_n 0, 1) := by decide +kernel
theorem d_X2_nearest_106 : decode b_X2_nearest 106 = .ok (.iload_n 2, 1) := by decide +kernel
theorem d_X2_nearest_107 : decode b_X2_nearest 107 = .ok (.iload 4, 2) := by decide +kernel
theorem d_X2_nearest_109 : decode b_X2_nearest 109 = .ok (.invokevirtual 100, 3) := by decide +kernel
theorem d_X2_nearest_112 : decode b_X2_nearest 112 = .ok (.aload_n 0, 1) := by decide +kernel
theorem d_X2_nearest_113 : decode b_X2_nearest 113 = .ok (.iload_n 1, 1) := by decide +kernel
theorem d_X2_nearest_114 : decode b_X2_nearest 114 = .ok (.iconst 1, 1) := by decide +kernel
theorem d_X2_nearest_115 : decode b_X2_nearest 115 = .ok (.invokevirtual 86, 3) := by decide +kernel
theorem d_X2_nearest_118 : decode b_X2_nearest 118 = .ok (.ireturn, 1) := by decide +kernel
theorem d_X2_divide_0 : decode b_X2_divide 0 = .ok (.aload_n 0, 1) := by decide +kernel
theorem d_X2_divide_1 : decode b_X2_divide 1 = .ok (.iload_n 1, 1) := by decide +kernel
theorem d_X2_divide_2 : decode b_X2_divide 2 = .ok (.invokestatic 62, 3) := by decide +kernel
theorem d_X2_divide_5 : decode b_X2_divide 5 = .ok (.ifCond .ne 7, 3) := by decide +kernel
theorem d_X2_divide_8 : decode b_X2_divide 8 = .ok (.iconst 1, 1) := by decide +kernel
theorem d_X2_divide_9 : decode b_X2_divide 9 = .ok (.goto 22, 3) := by decide +kernel
theorem d_X2_divide_12 : decode b_X2_divide 12 = .ok (.lload_n 2, 1) := by decide +kernel
theorem d_X2_divide_13 : decode b_X2_divide 13 = .ok (.lconst 1, 1) := by decide +kernel
theorem d_X2_divide_14 : decode b_X2_divide 14 = .ok (.lcmp, 1) := by decide +kernel
theorem d_X2_divide_15 : decode b_X2_divide 15 = .ok (.ifCond .lt 11, 3) := by decide +kernel
theorem d_X2_divide_18 : decode b_X2_divide 18 = .ok (.lload_n 2, 1) := by decide +kernel
theorem d_X2_divide_19 : decode b_X2_divide 19 = .ok (.ldc2_w 104, 3) := by decide +kernel
theorem d_X2_divide_22 : decode b_X2_divide 22 = .ok (.lcmp, 1) := by decide +kernel
theorem d_X2_divide_23 : decode b_X2_divide 23 = .ok (.ifCond .le 7, 3) := by decide +kernel
theorem d_X2_divide_26 : decode b_X2_divide 26 = .ok (.iconst 2, 1) := by decide +kernel
theorem d_X2_divide_27 : decode b_X2_divide 27 = .ok (.goto 4, 3) := by decide +kernel
theorem d_X2_divide_30 : decode b_X2_divide 30 = .ok (.iconst 0, 1) := by decide +kernel
theorem d_X2_divide_31 : decode b_X2_divide 31 = .ok (.invokevirtual 65, 3) := by decide +kernel
theorem d_X2_divide_34 : decode b_X2_divide 34 = .ok (.ifCond .eq 5, 3) := by decide +kernel
theorem d_X2_divide_37 : decode b_X2_divide 37 = .ok (.lconst 0, 1) := by decide +kernel
theorem d_X2_divide_38 : decode b_X2_divide 38 = .ok (.lreturn, 1) := by decide +kernel
theorem d_X2_divide_39 : decode b_X2_divide 39 = .ok (.aload_n 0, 1) := by decide +kernel
theorem d_X2_divide_40 : decode b_X2_divide 40 = .ok (.iconst 0, 1) := by decide +kernel
theorem d_X2_divide_41 : decode b_X2_divide 41 = .ok (.iload_n 1, 1) := by decide +kernel
theorem d_X2_divide_42 : decode b_X2_divide 42 = .ok (.invokevirtual 53, 3) := by decide +kernel
theorem d_X2_divide_45 : decode b_X2_divide 45 = .ok (.aload_n 0, 1) := by decide +kernel
theorem d_X2_divide_46 : decode b_X2_divide 46 = .ok (.iconst 1, 1) := by decide +kernel
theorem d_X2_divide_47 : decode b_X2_divide 47 = .ok (.invokevirtual 27, 3) := by decide +kernel
theorem d_X2_divide_50 : decode b_X2_divide 50 = .ok (.lconst 0, 1) := by decide +kernel
theorem d_X2_divide_51 : decode b_X2_divide 51 = .ok (.lstore 4, 2) := by decide +kernel
theorem d_X2_divide_53 : decode b_X2_divide 53 = .ok (.aload_n 0, 1) := by decide +kernel
theorem d_X2_divide_54 : decode b_X2_divide 54 = .ok (.iconst 0, 1) := by decide +kernel
theorem d_X2_divide_55 : decode b_X2_divide 55 = .ok (.invokevirtual 43, 3) := by decide +kernel
theorem d_X2_divide_58 : decode b_X2_divide 58 = .ok (.iconst 1, 1) := by decide +kernel
theorem d_X2_divide_59 : decode b_X2_divide 59 = .ok (.isub, 1) := by decide +kernel
theorem d_X2_divide_60 : decode b_X2_divide 60 = .ok (.istore 6, 2) := by decide +kernel
theorem d_X2_divide_62 : decode b_X2_divide 62 = .ok (.iload 6, 2) := by decide +kernel
theorem d_X2_divide_64 : decode b_X2_divide 64 = .ok (.ifCond .lt 75, 3) := by decide +kernel
theorem d_X2_divide_67 : decode b_X2_divide 67 = .ok (.ldc2_w 106, 3) := by decide +kernel
theorem d_X2_divide_70 : decode b_X2_divide 70 = .ok (.lload 4, 2) := by decide +kernel
theorem d_X2_divide_72 : decode b_X2_divide 72 = .ok (.lmul, 1) := by decide +kernel
theorem d_X2_divide_73 : decode b_X2_divide 73 = .ok (.aload_n 0, 1) := by decide +kernel
theorem d_X2_divide_74 : decode b_X2_divide 74 = .ok (.iconst 0, 1) := by decide +kernel
theorem d_X2_divide_75 : decode b_X2_divide 75 = .ok (.iload 6, 2) := by decide +kernel
theorem d_X2_divide_77 : decode b_X2_divide 77 = .ok (.invokevirtual 39, 3) := by decide +kernel
theorem d_X2_divide_80 : decode b_X2_divide 80 = .ok (.i2l, 1) := by decide +kernel
theorem d_X2_divide_81 : decode b_X2_divide 81 = .ok (.ladd, 1) := by decide +kernel
theorem d_X2_divide_82 : decode b_X2_divide 82 = .ok (.lstore 4, 2) := by decide +kernel
theorem d_X2_divide_84 : decode b_X2_divide 84 = .ok (.lload 4, 2) := by decide +kernel
theorem d_X2_divide_86 : decode b_X2_divide 86 = .ok (.lload_n 2, 1) := by decide +kernel
theorem d_X2_divide_87 : decode b_X2_divide 87 = .ok (.lcmp, 1) := by decide +kernel
theorem d_X2_divide_88 : decode b_X2_divide 88 = .ok (.ifCond .lt 45, 3) := by decide +kernel
theorem d_X2_divide_91 : decode b_X2_divide 91 = .ok (.lload 4, 2) := by decide +kernel
theorem d_X2_divide_93 : decode b_X2_divide 93 = .ok (.lload_n 2, 1) := by decide +kernel
theorem d_X2_divide_94 : decode b_X2_divide 94 = .ok (.lsub, 1) := by decide +kernel
theorem d_X2_divide_95 : decode b_X2_divide 95 = .ok (.lstore 4, 2) := by decide +kernel
theorem d_X2_divide_97 : decode b_X2_divide 97 = .ok (.aload_n 0, 1) := by decide +kernel
theorem d_X2_divide_98 : decode b_X2_divide 98 = .ok (.getfield 20, 3) := by decide +kernel
theorem d_X2_divide_101 : decode b_X2_divide 101 = .ok (.sipush 1100, 3) := by decide +kernel
theorem d_X2_divide_104 : decode b_X2_divide 104 = .ok (.iload 6, 2) := by decide +kernel
theorem d_X2_divide_106 : decode b_X2_divide 106 = .ok (.bipush 16, 2) := by decide +kernel
theorem d_X2_divide_108 : decode b_X2_divide 108 = .ok (.idiv, 1) := by decide +kernel
theorem d_X2_divide_109 : decode b_X2_divide 109 = .ok (.iadd, 1) := by decide +kernel
theorem d_X2_divide_110 : decode b_X2_divide 110 = .ok (.aload_n 0, 1) := by decide +kernel
theorem d_X2_divide_111 : decode b_X2_divide 111 = .ok (.getfield 20, 3) := by decide +kernel
theorem d_X2_divide_114 : decode b_X2_divide 114 = .ok (.sipush 1100, 3) := by decide +kernel
theorem d_X2_divide_117 : decode b_X2_divide 117 = .ok (.iload 6, 2) := by decide +kernel
theorem d_X2_divide_119 : decode b_X2_divide 119 = .ok (.bipush 16, 2) := by decide +kernel
theorem d_X2_divide_121 : decode b_X2_divide 121 = .ok (.idiv, 1) := by decide +kernel
theorem d_X2_divide_122 : decode b_X2_divide 122 = .ok (.iadd, 1) := by decide +kernel
theorem d_X2_divide_123 : decode b_X2_divide 123 = .ok (.iaload, 1) := by decide +kernel
theorem d_X2_divide_124 : decode b_X2_divide 124 = .ok (.iconst 1, 1) := by decide +kernel
theorem d_X2_divide_125 : decode b_X2_divide 125 = .ok (.iload 6, 2) := by decide +kernel
theorem d_X2_divide_127 : decode b_X2_divide 127 = .ok (.bipush 16, 2) := by decide +kernel
theorem d_X2_divide_129 : decode b_X2_divide 129 = .ok (.irem, 1) := by decide +kernel
theorem d_X2_divide_130 : decode b_X2_divide 130 = .ok (.ishl, 1) := by decide +kernel
theorem d_X2_divide_131 : decode b_X2_divide 131 = .ok (.ior, 1) := by decide +kernel
theorem d_X2_divide_132 : decode b_X2_divide 132 = .ok (.iastore, 1) := by decide +kernel
theorem d_X2_divide_133 : decode b_X2_divide 133 = .ok (.iinc 6 (-1), 3) := by decide +kernel
theorem d_X2_divide_136 : decode b_X2_divide 136 = .ok (.goto (-74), 3) := by decide +kernel
theorem d_X2_divide_139 : decode b_X2_divide 139 = .ok (.aload_n 0, 1) := by decide +kernel
theorem d_X2_divide_140 : decode b_X2_divide 140 = .ok (.getfield 17, 3) := by decide +kernel
theorem d_X2_divide_143 : decode b_X2_divide 143 = .ok (.iconst 0, 1) := by decide +kernel
theorem d_X2_divide_144 : decode b_X2_divide 144 = .ok (.iaload, 1) := by decide +kernel
theorem d_X2_divide_145 : decode b_X2_divide 145 = .ok (.ifCond .ge 7, 3) := by decide +kernel
theorem d_X2_divide_148 : decode b_X2_divide 148 = .ok (.iconst 1, 1) := by decide +kernel
theorem d_X2_divide_149 : decode b_X2_divide 149 = .ok (.goto 4, 3) := by decide +kernel
theorem d_X2_divide_152 : decode b_X2_divide 152 = .ok (.iconst 0, 1) := by decide +kernel
theorem d_X2_divide_153 : decode b_X2_divide 153 = .ok (.istore 6, 2) := by decide +kernel
theorem d_X2_divide_155 : decode b_X2_divide 155 = .ok (.aload_n 0, 1) := by decide +kernel
theorem d_X2_divide_156 : decode b_X2_divide 156 = .ok (.getfield 17, 3) := by decide +kernel
theorem d_X2_divide_159 : decode b_X2_divide 159 = .ok (.iconst 1, 1) := by decide +kernel
theorem d_X2_divide_160 : decode b_X2_divide 160 = .ok (.aload_n 0, 1) := by decide +kernel
theorem d_X2_divide_161 : decode b_X2_divide 161 = .ok (.iconst 1, 1) := by decide +kernel
theorem d_X2_divide_162 : decode b_X2_divide 162 = .ok (.invokevirtual 43, 3) := by decide +kernel
theorem d_X2_divide_165 : decode b_X2_divide 165 = .ok (.ifCond .ne 7, 3) := by decide +kernel
theorem d_X2_divide_168 : decode b_X2_divide 168 = .ok (.iconst 0, 1) := by decide +kernel
theorem d_X2_divide_169 : decode b_X2_divide 169 = .ok (.goto 9, 3) := by decide +kernel
theorem d_X2_divide_172 : decode b_X2_divide 172 = .ok (.aload_n 0, 1) := by decide +kernel
theorem d_X2_divide_173 : decode b_X2_divide 173 = .ok (.getfield 17, 3) := by decide +kernel
theorem d_X2_divide_176 : decode b_X2_divide 176 = .ok (.iconst 0, 1) := by decide +kernel
theorem d_X2_divide_177 : decode b_X2_divide 177 = .ok (.iaload, 1) := by decide +kernel
theorem d_X2_divide_178 : decode b_X2_divide 178 = .ok (.iastore, 1) := by decide +kernel
theorem d_X2_divide_179 : decode b_X2_divide 179 = .ok (.iload 6, 2) := by decide +kernel
theorem d_X2_divide_181 : decode b_X2_divide 181 = .ok (.ifCond .eq 31, 3) := by decide +kernel
theorem d_X2_divide_184 : decode b_X2_divide 184 = .ok (.lload 4, 2) := by decide +kernel
theorem d_X2_divide_186 : decode b_X2_divide 186 = .ok (.lconst 0, 1) := by decide +kernel
theorem d_X2_divide_187 : decode b_X2_divide 187 = .ok (.lcmp, 1) := by decide +kernel
theorem d_X2_divide_188 : decode b_X2_divide 188 = .ok (.ifCond .le 24, 3) := by decide +kernel
theorem d_X2_divide_191 : decode b_X2_divide 191 = .ok (.aload_n 0, 1) := by decide +kernel
theorem d_X2_divide_192 : decode b_X2_divide 192 = .ok (.iconst 2, 1) := by decide +kernel
theorem d_X2_divide_193 : decode b_X2_divide 193 = .ok (.ldc2_w 108, 3) := by decide +kernel
theorem d_X2_divide_196 : decode b_X2_divide 196 = .ok (.invokevirtual 72, 3) := by decide +kernel
theorem d_X2_divide_199 : decode b_X2_divide 199 = .ok (.aload_n 0, 1) := by decide +kernel
theorem d_X2_divide_200 : decode b_X2_divide 200 = .ok (.iconst 1, 1) := by decide +kernel
theorem d_X2_divide_201 : decode b_X2_divide 201 = .ok (.iconst 2, 1) := by decide +kernel
theorem d_X2_divide_202 : decode b_X2_divide 202 = .ok (.iconst 0, 1) := by decide +kernel
theorem d_X2_divide_203 : decode b_X2_divide 203 = .ok (.invokevirtual 82, 3) := by decide +kernel
theorem d_X2_divide_206 : decode b_X2_divide 206 = .ok (.lload_n 2, 1) := by decide +kernel
theorem d_X2_divide_207 : decode b_X2_divide 207 = .ok (.lload 4, 2) := by decide +kernel
theorem d_X2_divide_209 : decode b_X2_divide 209 = .ok (.lsub, 1) := by decide +kernel
theorem d_X2_divide_210 : decode b_X2_divide 210 = .ok (.lstore 4, 2) := by decide +kernel
theorem d_X2_divide_212 : decode b_X2_divide 212 = .ok (.aload_n 0, 1) := by decide +kernel
theorem d_X2_divide_213 : decode b_X2_divide 213 = .ok (.iload_n 1, 1) := by decide +kernel
theorem d_X2_divide_214 : decode b_X2_divide 214 = .ok (.iconst 1, 1) := by decide +kernel
theorem d_X2_divide_215 : decode b_X2_divide 215 = .ok (.invokevirtual 68, 3) := by decide +kernel
theorem d_X2_divide_218 : decode b_X2_divide 218 = .ok (.pop, 1) := by decide +kernel
theorem d_X2_divide_219 : decode b_X2_divide 219 = .ok (.lload 4, 2) := by decide +kernel
theorem d_X2_divide_221 : decode b_X2_divide 221 = .ok (.lreturn, 1) := by decide +kernel
theorem d_X2_zeros_0 : decode b_X2_zeros 0 = .ok (.aload_n 0, 1) := by decide +kernel
theorem d_X2_zeros_1 : decode b_X2_zeros 1 = .ok (.iload_n 1, 1) := by decide +kernel
theorem d_X2_zeros_2 : decode b_X2_zeros 2 = .ok (.invokestatic 62, 3) := by decide +kernel
theorem d_X2_zeros_5 : decode b_X2_zeros 5 = .ok (.ifCond .eq 7, 3) := by decide +kernel
theorem d_X2_zeros_8 : decode b_X2_zeros 8 = .ok (.iconst 0, 1) := by decide +kernel
theorem d_X2_zeros_9 : decode b_X2_zeros 9 = .ok (.goto 4, 3) := by decide +kernel
theorem d_X2_zeros_12 : decode b_X2_zeros 12 = .ok (.iconst 1, 1) := by decide +kernel
theorem d_X2_zeros_13 : decode b_X2_zeros 13 = .ok (.invokevirtual 65, 3) := by decide +kernel
theorem d_X2_zeros_16 : decode b_X2_zeros 16 = .ok (.ifCond .eq 5, 3) := by decide +kernel
theorem d_X2_zeros_19 : decode b_X2_zeros 19 = .ok (.iconst 0, 1) := by decide +kernel
theorem d_X2_zeros_20 : decode b_X2_zeros 20 = .ok (.ireturn, 1) := by decide +kernel
theorem d_X2_zeros_21 : decode b_X2_zeros 21 = .ok (.aload_n 0, 1) := by decide +kernel
theorem d_X2_zeros_22 : decode b_X2_zeros 22 = .ok (.iconst 0, 1) := by decide +kernel
theorem d_X2_zeros_23 : decode b_X2_zeros 23 = .ok (.iload_n 1, 1) := by decide +kernel
theorem d_X2_zeros_24 : decode b_X2_zeros 24 = .ok (.invokevirtual 53, 3) := by decide +kernel
theorem d_X2_zeros_27 : decode b_X2_zeros 27 = .ok (.aload_n 0, 1) := by decide +kernel
theorem d_X2_zeros_28 : decode b_X2_zeros 28 = .ok (.getfield 17, 3) := by decide +kernel
theorem d_X2_zeros_31 : decode b_X2_zeros 31 = .ok (.iconst 0, 1) := by decide +kernel
theorem d_X2_zeros_32 : decode b_X2_zeros 32 = .ok (.iaload, 1) := by decide +kernel
theorem d_X2_zeros_33 : decode b_X2_zeros 33 = .ok (.ifCond .ne 15, 3) := by decide +kernel
theorem d_X2_zeros_36 : decode b_X2_zeros 36 = .ok (.bipush 32, 2) := by decide +kernel
theorem d_X2_zeros_38 : decode b_X2_zeros 38 = .ok (.aload_n 0, 1) := by decide +kernel
theorem d_X2_zeros_39 : decode b_X2_zeros 39 = .ok (.getfield 7, 3) := by decide +kernel
theorem d_X2_zeros_42 : decode b_X2_zeros 42 = .ok (.iload_n 1, 1) := by decide +kernel
theorem d_X2_zeros_43 : decode b_X2_zeros 43 = .ok (.iaload, 1) := by decide +kernel
theorem d_X2_zeros_44 : decode b_X2_zeros 44 = .ok (.imul, 1) := by decide +kernel
theorem d_X2_zeros_45 : decode b_X2_zeros 45 = .ok (.goto 8, 3) := by decide +kernel
theorem d_X2_zeros_48 : decode b_X2_zeros 48 = .ok (.aload_n 0, 1) := by decide +kernel
theorem d_X2_zeros_49 : decode b_X2_zeros 49 = .ok (.iconst 0, 1) := by decide +kernel
theorem d_X2_zeros_50 : decode b_X2_zeros 50 = .ok (.invokevirtual 47, 3) := by decide +kernel
theorem d_X2_zeros_53 : decode b_X2_zeros 53 = .ok (.ireturn, 1) := by decide +kernel
theorem d_X2_length_0 : decode b_X2_length 0 = .ok (.aload_n 0, 1) := by decide +kernel
theorem d_X2_length_1 : decode b_X2_length 1 = .ok (.iload_n 1, 1) := by decide +kernel
theorem d_X2_length_2 : decode b_X2_length 2 = .ok (.invokestatic 62, 3) := by decide +kernel
theorem d_X2_length_5 : decode b_X2_length 5 = .ok (.ifCond .eq 7, 3) := by decide +kernel
theorem d_X2_length_8 : decode b_X2_length 8 = .ok (.iconst 0, 1) := by decide +kernel
theorem d_X2_length_9 : decode b_X2_length 9 = .ok (.goto 4, 3) := by decide +kernel
theorem d_X2_length_12 : decode b_X2_length 12 = .ok (.iconst 1, 1) := by decide +kernel
theorem d_X2_length_13 : decode b_X2_length 13 = .ok (.invokevirtual 65, 3) := by decide +kernel
theorem d_X2_length_16 : decode b_X2_length 16 = .ok (.ifCond .eq 5, 3) := by decide +kernel
theorem d_X2_length_19 : decode b_X2_length 19 = .ok (.iconst 0, 1) := by decide +kernel
theorem d_X2_length_20 : decode b_X2_length 20 = .ok (.ireturn, 1) := by decide +kernel
theorem d_X2_length_21 : decode b_X2_length 21 = .ok (.aload_n 0, 1) := by decide +kernel
theorem d_X2_length_22 : decode b_X2_length 22 = .ok (.iconst 0, 1) := by decide +kernel
theorem d_X2_length_23 : decode b_X2_length 23 = .ok (.iload_n 1, 1) := by decide +kernel
theorem d_X2_length_24 : decode b_X2_length 24 = .ok (.invokevirtual 53, 3) := by decide +kernel
theorem d_X2_length_27 : decode b_X2_length 27 = .ok (.aload_n 0, 1) := by decide +kernel
theorem d_X2_length_28 : decode b_X2_length 28 = .ok (.iconst 0, 1) := by decide +kernel
theorem d_X2_length_29 : decode b_X2_length 29 = .ok (.invokevirtual 50, 3) := by decide +kernel
theorem d_X2_length_32 : decode b_X2_length 32 = .ok (.ireturn, 1) := by decide +kernel
theorem d_X2_sign_0 : decode b_X2_sign 0 = .ok (.aload_n 0, 1) := by decide +kernel
theorem d_X2_sign_1 : decode b_X2_sign 1 = .ok (.iload_n 1, 1) := by decide +kernel
theorem d_X2_sign_2 : decode b_X2_sign 2 = .ok (.invokestatic 62, 3) := by decide +kernel
theorem d_X2_sign_5 : decode b_X2_sign 5 = .ok (.ifCond .eq 7, 3) := by decide +kernel
theorem d_X2_sign_8 : decode b_X2_sign 8 = .ok (.iconst 0, 1) := by decide +kernel
theorem d_X2_sign_9 : decode b_X2_sign 9 = .ok (.goto 4, 3) := by decide +kernel
theorem d_X2_sign_12 : decode b_X2_sign 12 = .ok (.iconst 1, 1) := by decide +kernel
theorem d_X2_sign_13 : decode b_X2_sign 13 = .ok (.invokevirtual 65, 3) := by decide +kernel
theorem d_X2_sign_16 : decode b_X2_sign 16 = .ok (.ifCond .eq 7, 3) := by decide +kernel
theorem d_X2_sign_19 : decode b_X2_sign 19 = .ok (.iconst 0, 1) := by decide +kernel
theorem d_X2_sign_20 : decode b_X2_sign 20 = .ok (.goto 8, 3) := by decide +kernel
theorem d_X2_sign_23 : decode b_X2_sign 23 = .ok (.aload_n 0, 1) := by decide +kernel
theorem d_X2_sign_24 : decode b_X2_sign 24 = .ok (.iload_n 1, 1) := by decide +kernel
theorem d_X2_sign_25 : decode b_X2_sign 25 = .ok (.invokevirtual 79, 3) := by decide +kernel
theorem d_X2_sign_28 : decode b_X2_sign 28 = .ok (.ireturn, 1) := by decide +kernel
theorem d_X2_compare_0 : decode b_X2_compare 0 = .ok (.aload_n 0, 1) := by decide +kernel
theorem d_X2_compare_1 : decode b_X2_compare 1 = .ok (.iload_n 1, 1) := by decide +kernel
theorem d_X2_compare_2 : decode b_X2_compare 2 = .ok (.invokestatic 62, 3) := by decide +kernel
theorem d_X2_compare_5 : decode b_X2_compare 5 = .ok (.ifCond .eq 14, 3) := by decide +kernel
theorem d_X2_compare_8 : decode b_X2_compare 8 = .ok (.iload_n 2, 1) := by decide +kernel
theorem d_X2_compare_9 : decode b_X2_compare 9 = .ok (.invokestatic 62, 3) := by decide +kernel
theorem d_X2_compare_12 : decode b_X2_compare 12 = .ok (.ifCond .eq 7, 3) := by decide +kernel
theorem d_X2_compare_15 : decode b_X2_compare 15 = .ok (.iconst 0, 1) := by decide +kernel
theorem d_X2_compare_16 : decode b_X2_compare 16 = .ok (.goto 4, 3) := by decide +kernel
theorem d_X2_compare_19 : decode b_X2_compare 19 = .ok (.iconst 1, 1) := by decide +kernel
theorem d_X2_compare_20 : decode b_X2_compare 20 = .ok (.invokevirtual 65, 3) := by decide +kernel
theorem d_X2_compare_23 : decode b_X2_compare 23 = .ok (.ifCond .eq 5, 3) := by decide +kernel
theorem d_X2_compare_26 : decode b_X2_compare 26 = .ok (.iconst 0, 1) := by decide +kernel
theorem d_X2_compare_27 : decode b_X2_compare 27 = .ok (.ireturn, 1) := by decide +kernel
theorem d_X2_compare_28 : decode b_X2_compare 28 = .ok (.aload_n 0, 1) := by decide +kernel
theorem d_X2_compare_29 : decode b_X2_compare 29 = .ok (.iconst 0, 1) := by decide +kernel
theorem d_X2_compare_30 : decode b_X2_compare 30 = .ok (.iload_n 1, 1) := by decide +kernel
theorem d_X2_compare_31 : decode b_X2_compare 31 = .ok (.invokevirtual 53, 3) := by decide +kernel
theorem d_X2_compare_34 : decode b_X2_compare 34 = .ok (.aload_n 0, 1) := by decide +kernel
theorem d_X2_compare_35 : decode b_X2_compare 35 = .ok (.iconst 1, 1) := by decide +kernel
theorem d_X2_compare_36 : decode b_X2_compare 36 = .ok (.iload_n 2, 1) := by decide +kernel
theorem d_X2_compare_37 : decode b_X2_compare 37 = .ok (.invokevirtual 53, 3) := by decide +kernel
theorem d_X2_compare_40 : decode b_X2_compare 40 = .ok (.aload_n 0, 1) := by decide +kernel
theorem d_X2_compare_41 : decode b_X2_compare 41 = .ok (.iconst 0, 1) := by decide +kernel
theorem d_X2_compare_42 : decode b_X2_compare 42 = .ok (.iconst 1, 1) := by decide +kernel
theorem d_X2_compare_43 : decode b_X2_compare 43 = .ok (.iconst 1, 1) := by decide +kernel
theorem d_X2_compare_44 : decode b_X2_compare 44 = .ok (.invokevirtual 82, 3) := by decide +kernel
theorem d_X2_compare_47 : decode b_X2_compare 47 = .ok (.aload_n 0, 1) := by decide +kernel
theorem d_X2_compare_48 : decode b_X2_compare 48 = .ok (.getfield 17, 3) := by decide +kernel
theorem d_X2_compare_51 : decode b_X2_compare 51 = .ok (.iconst 0, 1) := by decide +kernel
theorem d_X2_compare_52 : decode b_X2_compare 52 = .ok (.iaload, 1) := by decide +kernel
theorem d_X2_compare_53 : decode b_X2_compare 53 = .ok (.ireturn, 1) := by decide +kernel
