theorem d_X2_compareSizes_5 : decode b_X2_compareSizes 5 = .ok (.ifCond .le 36, 3) := by decide +kernel
theorem d_X2_compareSizes_8 : decode b_X2_compareSizes 8 = .ok (.aload_n 0, 1) := by decide +kernel
theorem d_X2_compareSizes_9 : decode b_X2_compareSizes 9 = .ok (.getfield 20, 3) := by decide +kernel
theorem d_X2_compareSizes_12 : decode b_X2_compareSizes 12 = .ok (.sipush 1100, 3) := by decide +kernel
theorem d_X2_compareSizes_15 : decode b_X2_compareSizes 15 = .ok (.iload_n 1, 1) := by decide +kernel
theorem d_X2_compareSizes_16 : decode b_X2_compareSizes 16 = .ok (.imul, 1) := by decide +kernel
theorem d_X2_compareSizes_17 : decode b_X2_compareSizes 17 = .ok (.iload_n 3, 1) := by decide +kernel
theorem d_X2_compareSizes_18 : decode b_X2_compareSizes 18 = .ok (.iadd, 1) := by decide +kernel
theorem d_X2_compareSizes_19 : decode b_X2_compareSizes 19 = .ok (.iaload, 1) := by decide +kernel
theorem d_X2_compareSizes_20 : decode b_X2_compareSizes 20 = .ok (.aload_n 0, 1) := by decide +kernel
theorem d_X2_compareSizes_21 : decode b_X2_compareSizes 21 = .ok (.getfield 20, 3) := by decide +kernel
theorem d_X2_compareSizes_24 : decode b_X2_compareSizes 24 = .ok (.sipush 1100, 3) := by decide +kernel
theorem d_X2_compareSizes_27 : decode b_X2_compareSizes 27 = .ok (.iload_n 2, 1) := by decide +kernel
theorem d_X2_compareSizes_28 : decode b_X2_compareSizes 28 = .ok (.imul, 1) := by decide +kernel
theorem d_X2_compareSizes_29 : decode b_X2_compareSizes 29 = .ok (.iload_n 3, 1) := by decide +kernel
theorem d_X2_compareSizes_30 : decode b_X2_compareSizes 30 = .ok (.iadd, 1) := by decide +kernel
theorem d_X2_compareSizes_31 : decode b_X2_compareSizes 31 = .ok (.iaload, 1) := by decide +kernel
theorem d_X2_compareSizes_32 : decode b_X2_compareSizes 32 = .ok (.if_icmp .ne 9, 3) := by decide +kernel
theorem d_X2_compareSizes_35 : decode b_X2_compareSizes 35 = .ok (.iinc 3 (-1), 3) := by decide +kernel
theorem d_X2_compareSizes_38 : decode b_X2_compareSizes 38 = .ok (.goto (-34), 3) := by decide +kernel
theorem d_X2_compareSizes_41 : decode b_X2_compareSizes 41 = .ok (.aload_n 0, 1) := by decide +kernel
theorem d_X2_compareSizes_42 : decode b_X2_compareSizes 42 = .ok (.getfield 20, 3) := by decide +kernel
theorem d_X2_compareSizes_45 : decode b_X2_compareSizes 45 = .ok (.sipush 1100, 3) := by decide +kernel
theorem d_X2_compareSizes_48 : decode b_X2_compareSizes 48 = .ok (.iload_n 1, 1) := by decide +kernel
theorem d_X2_compareSizes_49 : decode b_X2_compareSizes 49 = .ok (.imul, 1) := by decide +kernel
theorem d_X2_compareSizes_50 : decode b_X2_compareSizes 50 = .ok (.iload_n 3, 1) := by decide +kernel
theorem d_X2_compareSizes_51 : decode b_X2_compareSizes 51 = .ok (.iadd, 1) := by decide +kernel
theorem d_X2_compareSizes_52 : decode b_X2_compareSizes 52 = .ok (.iaload, 1) := by decide +kernel
theorem d_X2_compareSizes_53 : decode b_X2_compareSizes 53 = .ok (.aload_n 0, 1) := by decide +kernel
theorem d_X2_compareSizes_54 : decode b_X2_compareSizes 54 = .ok (.getfield 20, 3) := by decide +kernel
theorem d_X2_compareSizes_57 : decode b_X2_compareSizes 57 = .ok (.sipush 1100, 3) := by decide +kernel
theorem d_X2_compareSizes_60 : decode b_X2_compareSizes 60 = .ok (.iload_n 2, 1) := by decide +kernel
theorem d_X2_compareSizes_61 : decode b_X2_compareSizes 61 = .ok (.imul, 1) := by decide +kernel
theorem d_X2_compareSizes_62 : decode b_X2_compareSizes 62 = .ok (.iload_n 3, 1) := by decide +kernel
theorem d_X2_compareSizes_63 : decode b_X2_compareSizes 63 = .ok (.iadd, 1) := by decide +kernel
theorem d_X2_compareSizes_64 : decode b_X2_compareSizes 64 = .ok (.iaload, 1) := by decide +kernel
theorem d_X2_compareSizes_65 : decode b_X2_compareSizes 65 = .ok (.isub, 1) := by decide +kernel
theorem d_X2_compareSizes_66 : decode b_X2_compareSizes 66 = .ok (.istore 4, 2) := by decide +kernel
theorem d_X2_compareSizes_68 : decode b_X2_compareSizes 68 = .ok (.iload 4, 2) := by decide +kernel
theorem d_X2_compareSizes_70 : decode b_X2_compareSizes 70 = .ok (.ifCond .ge 7, 3) := by decide +kernel
theorem d_X2_compareSizes_73 : decode b_X2_compareSizes 73 = .ok (.iconst (-1), 1) := by decide +kernel
theorem d_X2_compareSizes_74 : decode b_X2_compareSizes 74 = .ok (.goto 13, 3) := by decide +kernel
theorem d_X2_compareSizes_77 : decode b_X2_compareSizes 77 = .ok (.iload 4, 2) := by decide +kernel
theorem d_X2_compareSizes_79 : decode b_X2_compareSizes 79 = .ok (.ifCond .le 7, 3) := by decide +kernel
theorem d_X2_compareSizes_82 : decode b_X2_compareSizes 82 = .ok (.iconst 1, 1) := by decide +kernel
theorem d_X2_compareSizes_83 : decode b_X2_compareSizes 83 = .ok (.goto 4, 3) := by decide +kernel
theorem d_X2_compareSizes_86 : decode b_X2_compareSizes 86 = .ok (.iconst 0, 1) := by decide +kernel
theorem d_X2_compareSizes_87 : decode b_X2_compareSizes 87 = .ok (.ireturn, 1) := by decide +kernel
theorem d_X2_kept_0 : decode b_X2_kept 0 = .ok (.aload_n 0, 1) := by decide +kernel
theorem d_X2_kept_1 : decode b_X2_kept 1 = .ok (.iload_n 1, 1) := by decide +kernel
theorem d_X2_kept_2 : decode b_X2_kept 2 = .ok (.iload_n 2, 1) := by decide +kernel
theorem d_X2_kept_3 : decode b_X2_kept 3 = .ok (.invokevirtual 68, 3) := by decide +kernel
theorem d_X2_kept_6 : decode b_X2_kept 6 = .ok (.pop, 1) := by decide +kernel
theorem d_X2_kept_7 : decode b_X2_kept 7 = .ok (.aload_n 0, 1) := by decide +kernel
theorem d_X2_kept_8 : decode b_X2_kept 8 = .ok (.iload_n 1, 1) := by decide +kernel
theorem d_X2_kept_9 : decode b_X2_kept 9 = .ok (.invokevirtual 79, 3) := by decide +kernel
theorem d_X2_kept_12 : decode b_X2_kept 12 = .ok (.ireturn, 1) := by decide +kernel
theorem d_X2_subtract_0 : decode b_X2_subtract 0 = .ok (.aload_n 0, 1) := by decide +kernel
theorem d_X2_subtract_1 : decode b_X2_subtract 1 = .ok (.iload_n 1, 1) := by decide +kernel
theorem d_X2_subtract_2 : decode b_X2_subtract 2 = .ok (.iload_n 2, 1) := by decide +kernel
theorem d_X2_subtract_3 : decode b_X2_subtract 3 = .ok (.iconst 1, 1) := by decide +kernel
theorem d_X2_subtract_4 : decode b_X2_subtract 4 = .ok (.invokevirtual 89, 3) := by decide +kernel
theorem d_X2_subtract_7 : decode b_X2_subtract 7 = .ok (.ireturn, 1) := by decide +kernel
theorem d_X2_addProduct_0 : decode b_X2_addProduct 0 = .ok (.aload_n 0, 1) := by decide +kernel
theorem d_X2_addProduct_1 : decode b_X2_addProduct 1 = .ok (.iload_n 1, 1) := by decide +kernel
theorem d_X2_addProduct_2 : decode b_X2_addProduct 2 = .ok (.iload_n 2, 1) := by decide +kernel
theorem d_X2_addProduct_3 : decode b_X2_addProduct 3 = .ok (.iload_n 3, 1) := by decide +kernel
theorem d_X2_addProduct_4 : decode b_X2_addProduct 4 = .ok (.iconst 0, 1) := by decide +kernel
theorem d_X2_addProduct_5 : decode b_X2_addProduct 5 = .ok (.invokevirtual 96, 3) := by decide +kernel
theorem d_X2_addProduct_8 : decode b_X2_addProduct 8 = .ok (.ireturn, 1) := by decide +kernel
theorem d_X2_product_0 : decode b_X2_product 0 = .ok (.aload_n 0, 1) := by decide +kernel
theorem d_X2_product_1 : decode b_X2_product 1 = .ok (.iload_n 1, 1) := by decide +kernel
theorem d_X2_product_2 : decode b_X2_product 2 = .ok (.invokestatic 62, 3) := by decide +kernel
theorem d_X2_product_5 : decode b_X2_product 5 = .ok (.ifCond .eq 17, 3) := by decide +kernel
theorem d_X2_product_8 : decode b_X2_product 8 = .ok (.iload_n 2, 1) := by decide +kernel
theorem d_X2_product_9 : decode b_X2_product 9 = .ok (.invokestatic 62, 3) := by decide +kernel
theorem d_X2_product_12 : decode b_X2_product 12 = .ok (.ifCond .eq 10, 3) := by decide +kernel
theorem d_X2_product_15 : decode b_X2_product 15 = .ok (.iload_n 3, 1) := by decide +kernel
theorem d_X2_product_16 : decode b_X2_product 16 = .ok (.invokestatic 62, 3) := by decide +kernel
theorem d_X2_product_19 : decode b_X2_product 19 = .ok (.ifCond .ne 7, 3) := by decide +kernel
theorem d_X2_product_22 : decode b_X2_product 22 = .ok (.iconst 1, 1) := by decide +kernel
theorem d_X2_product_23 : decode b_X2_product 23 = .ok (.goto 18, 3) := by decide +kernel
theorem d_X2_product_26 : decode b_X2_product 26 = .ok (.iload_n 1, 1) := by decide +kernel
theorem d_X2_product_27 : decode b_X2_product 27 = .ok (.iload_n 2, 1) := by decide +kernel
theorem d_X2_product_28 : decode b_X2_product 28 = .ok (.if_icmp .eq 8, 3) := by decide +kernel
theorem d_X2_product_31 : decode b_X2_product 31 = .ok (.iload_n 1, 1) := by decide +kernel
theorem d_X2_product_32 : decode b_X2_product 32 = .ok (.iload_n 3, 1) := by decide +kernel
theorem d_X2_product_33 : decode b_X2_product 33 = .ok (.if_icmp .ne 7, 3) := by decide +kernel
theorem d_X2_product_36 : decode b_X2_product 36 = .ok (.iconst 2, 1) := by decide +kernel
theorem d_X2_product_37 : decode b_X2_product 37 = .ok (.goto 4, 3) := by decide +kernel
theorem d_X2_product_40 : decode b_X2_product 40 = .ok (.iconst 0, 1) := by decide +kernel
theorem d_X2_product_41 : decode b_X2_product 41 = .ok (.invokevirtual 65, 3) := by decide +kernel
theorem d_X2_product_44 : decode b_X2_product 44 = .ok (.ifCond .eq 5, 3) := by decide +kernel
theorem d_X2_product_47 : decode b_X2_product 47 = .ok (.iconst 0, 1) := by decide +kernel
theorem d_X2_product_48 : decode b_X2_product 48 = .ok (.ireturn, 1) := by decide +kernel
theorem d_X2_product_49 : decode b_X2_product 49 = .ok (.aload_n 0, 1) := by decide +kernel
theorem d_X2_product_50 : decode b_X2_product 50 = .ok (.iconst 0, 1) := by decide +kernel
theorem d_X2_product_51 : decode b_X2_product 51 = .ok (.iload_n 2, 1) := by decide +kernel
theorem d_X2_product_52 : decode b_X2_product 52 = .ok (.invokevirtual 53, 3) := by decide +kernel
theorem d_X2_product_55 : decode b_X2_product 55 = .ok (.aload_n 0, 1) := by decide +kernel
theorem d_X2_product_56 : decode b_X2_product 56 = .ok (.iconst 1, 1) := by decide +kernel
theorem d_X2_product_57 : decode b_X2_product 57 = .ok (.iload_n 3, 1) := by decide +kernel
theorem d_X2_product_58 : decode b_X2_product 58 = .ok (.invokevirtual 53, 3) := by decide +kernel
theorem d_X2_product_61 : decode b_X2_product 61 = .ok (.aload_n 0, 1) := by decide +kernel
theorem d_X2_product_62 : decode b_X2_product 62 = .ok (.invokevirtual 93, 3) := by decide +kernel
theorem d_X2_product_65 : decode b_X2_product 65 = .ok (.aload_n 0, 1) := by decide +kernel
theorem d_X2_product_66 : decode b_X2_product 66 = .ok (.iconst 0, 1) := by decide +kernel
theorem d_X2_product_67 : decode b_X2_product 67 = .ok (.iload_n 1, 1) := by decide +kernel
theorem d_X2_product_68 : decode b_X2_product 68 = .ok (.invokevirtual 53, 3) := by decide +kernel
theorem d_X2_product_71 : decode b_X2_product 71 = .ok (.aload_n 0, 1) := by decide +kernel
theorem d_X2_product_72 : decode b_X2_product 72 = .ok (.iconst 0, 1) := by decide +kernel
theorem d_X2_product_73 : decode b_X2_product 73 = .ok (.iconst 2, 1) := by decide +kernel
theorem d_X2_product_74 : decode b_X2_product 74 = .ok (.iload 4, 2) := by decide +kernel
theorem d_X2_product_76 : decode b_X2_product 76 = .ok (.invokevirtual 82, 3) := by decide +kernel
theorem d_X2_product_79 : decode b_X2_product 79 = .ok (.aload_n 0, 1) := by decide +kernel
theorem d_X2_product_80 : decode b_X2_product 80 = .ok (.iload_n 1, 1) := by decide +kernel
theorem d_X2_product_81 : decode b_X2_product 81 = .ok (.iconst 0, 1) := by decide +kernel
theorem d_X2_product_82 : decode b_X2_product 82 = .ok (.invokevirtual 86, 3) := by decide +kernel
theorem d_X2_product_85 : decode b_X2_product 85 = .ok (.ireturn, 1) := by decide +kernel
theorem d_X2_multiply_0 : decode b_X2_multiply 0 = .ok (.aload_n 0, 1) := by decide +kernel
theorem d_X2_multiply_1 : decode b_X2_multiply 1 = .ok (.iconst 2, 1) := by decide +kernel
theorem d_X2_multiply_2 : decode b_X2_multiply 2 = .ok (.invokevirtual 27, 3) := by decide +kernel
theorem d_X2_multiply_5 : decode b_X2_multiply 5 = .ok (.aload_n 0, 1) := by decide +kernel
theorem d_X2_multiply_6 : decode b_X2_multiply 6 = .ok (.iconst 0, 1) := by decide +kernel
theorem d_X2_multiply_7 : decode b_X2_multiply 7 = .ok (.invokevirtual 43, 3) := by decide +kernel
theorem d_X2_multiply_10 : decode b_X2_multiply 10 = .ok (.bipush 15, 2) := by decide +kernel
theorem d_X2_multiply_12 : decode b_X2_multiply 12 = .ok (.iadd, 1) := by decide +kernel
theorem d_X2_multiply_13 : decode b_X2_multiply 13 = .ok (.bipush 16, 2) := by decide +kernel
theorem d_X2_multiply_15 : decode b_X2_multiply 15 = .ok (.idiv, 1) := by decide +kernel
theorem d_X2_multiply_16 : decode b_X2_multiply 16 = .ok (.istore_n 1, 1) := by decide +kernel
theorem d_X2_multiply_17 : decode b_X2_multiply 17 = .ok (.aload_n 0, 1) := by decide +kernel
theorem d_X2_multiply_18 : decode b_X2_multiply 18 = .ok (.iconst 1, 1) := by decide +kernel
theorem d_X2_multiply_19 : decode b_X2_multiply 19 = .ok (.invokevirtual 43, 3) := by decide +kernel
theorem d_X2_multiply_22 : decode b_X2_multiply 22 = .ok (.bipush 15, 2) := by decide +kernel
theorem d_X2_multiply_24 : decode b_X2_multiply 24 = .ok (.iadd, 1) := by decide +kernel
theorem d_X2_multiply_25 : decode b_X2_multiply 25 = .ok (.bipush 16, 2) := by decide +kernel
theorem d_X2_multiply_27 : decode b_X2_multiply 27 = .ok (.idiv, 1) := by decide +kernel
theorem d_X2_multiply_28 : decode b_X2_multiply 28 = .ok (.istore_n 2, 1) := by decide +kernel
theorem d_X2_multiply_29 : decode b_X2_multiply 29 = .ok (.lconst 0, 1) := by decide +kernel
theorem d_X2_multiply_30 : decode b_X2_multiply 30 = .ok (.lstore_n 3, 1) := by decide +kernel
theorem d_X2_multiply_31 : decode b_X2_multiply 31 = .ok (.iconst 0, 1) := by decide +kernel
theorem d_X2_multiply_32 : decode b_X2_multiply 32 = .ok (.istore 5, 2) := by decide +kernel
theorem d_X2_multiply_34 : decode b_X2_multiply 34 = .ok (.iload 5, 2) := by decide +kernel
theorem d_X2_multiply_36 : decode b_X2_multiply 36 = .ok (.iload_n 1, 1) := by decide +kernel
theorem d_X2_multiply_37 : decode b_X2_multiply 37 = .ok (.iload_n 2, 1) := by decide +kernel
theorem d_X2_multiply_38 : decode b_X2_multiply 38 = .ok (.iadd, 1) := by decide +kernel
theorem d_X2_multiply_39 : decode b_X2_multiply 39 = .ok (.if_icmp .ge 122, 3) := by decide +kernel
theorem d_X2_multiply_42 : decode b_X2_multiply 42 = .ok (.lconst 0, 1) := by decide +kernel
theorem d_X2_multiply_43 : decode b_X2_multiply 43 = .ok (.lstore 6, 2) := by decide +kernel
theorem d_X2_multiply_45 : decode b_X2_multiply 45 = .ok (.iload 5, 2) := by decide +kernel
theorem d_X2_multiply_47 : decode b_X2_multiply 47 = .ok (.iload_n 2, 1) := by decide +kernel
theorem d_X2_multiply_48 : decode b_X2_multiply 48 = .ok (.isub, 1) := by decide +kernel
theorem d_X2_multiply_49 : decode b_X2_multiply 49 = .ok (.iconst 1, 1) := by decide +kernel
theorem d_X2_multiply_50 : decode b_X2_multiply 50 = .ok (.iadd, 1) := by decide +kernel
theorem d_X2_multiply_51 : decode b_X2_multiply 51 = .ok (.ifCond .ge 7, 3) := by decide +kernel
theorem d_X2_multiply_54 : decode b_X2_multiply 54 = .ok (.iconst 0, 1) := by decide +kernel
theorem d_X2_multiply_55 : decode b_X2_multiply 55 = .ok (.goto 9, 3) := by decide +kernel
theorem d_X2_multiply_58 : decode b_X2_multiply 58 = .ok (.iload 5, 2) := by decide +kernel
theorem d_X2_multiply_60 : decode b_X2_multiply 60 = .ok (.iload_n 2, 1) := by decide +kernel
theorem d_X2_multiply_61 : decode b_X2_multiply 61 = .ok (.isub, 1) := by decide +kernel
theorem d_X2_multiply_62 : decode b_X2_multiply 62 = .ok (.iconst 1, 1) := by decide +kernel
theorem d_X2_multiply_63 : decode b_X2_multiply 63 = .ok (.iadd, 1) := by decide +kernel
theorem d_X2_multiply_64 : decode b_X2_multiply 64 = .ok (.istore 8, 2) := by decide +kernel
theorem d_X2_multiply_66 : decode b_X2_multiply 66 = .ok (.iload 8, 2) := by decide +kernel
theorem d_X2_multiply_68 : decode b_X2_multiply 68 = .ok (.iload_n 1, 1) := by decide +kernel
theorem d_X2_multiply_69 : decode b_X2_multiply 69 = .ok (.if_icmp .ge 58, 3) := by decide +kernel
theorem d_X2_multiply_72 : decode b_X2_multiply 72 = .ok (.iload 8, 2) := by decide +kernel
theorem d_X2_multiply_74 : decode b_X2_multiply 74 = .ok (.iload 5, 2) := by decide +kernel
theorem d_X2_multiply_76 : decode b_X2_multiply 76 = .ok (.if_icmp .gt 51, 3) := by decide +kernel
theorem d_X2_multiply_79 : decode b_X2_multiply 79 = .ok (.lload_n 3, 1) := by decide +kernel
theorem d_X2_multiply_80 : decode b_X2_multiply 80 = .ok (.aload_n 0, 1) := by decide +kernel
theorem d_X2_multiply_81 : decode b_X2_multiply 81 = .ok (.getfield 20, 3) := by decide +kernel
theorem d_X2_multiply_84 : decode b_X2_multiply 84 = .ok (.iload 8, 2) := by decide +kernel
theorem d_X2_multiply_86 : decode b_X2_multiply 86 = .ok (.iaload, 1) := by decide +kernel
theorem d_X2_multiply_87 : decode b_X2_multiply 87 = .ok (.i2l, 1) := by decide +kernel
theorem d_X2_multiply_88 : decode b_X2_multiply 88 = .ok (.aload_n 0, 1) := by decide +kernel
theorem d_X2_multiply_89 : decode b_X2_multiply 89 = .ok (.getfield 20, 3) := by decide +kernel
theorem d_X2_multiply_92 : decode b_X2_multiply 92 = .ok (.sipush 1100, 3) := by decide +kernel
theorem d_X2_multiply_95 : decode b_X2_multiply 95 = .ok (.iload 5, 2) := by decide +kernel
theorem d_X2_multiply_97 : decode b_X2_multiply 97 = .ok (.iadd, 1) := by decide +kernel
theorem d_X2_multiply_98 : decode b_X2_multiply 98 = .ok (.iload 8, 2) := by decide +kernel
theorem d_X2_multiply_100 : decode b_X2_multiply 100 = .ok (.isub, 1) := by decide +kernel
theorem d_X2_multiply_101 : decode b_X2_multiply 101 = .ok (.iaload, 1) := by decide +kernel
theorem d_X2_multiply_102 : decode b_X2_multiply 102 = .ok (.i2l, 1) := by decide +kernel
theorem d_X2_multiply_103 : decode b_X2_multiply 103 = .ok (.lmul, 1) := by decide +kernel
theorem d_X2_multiply_104 : decode b_X2_multiply 104 = .ok (.ladd, 1) := by decide +kernel
theorem d_X2_multiply_105 : decode b_X2_multiply 105 = .ok (.lstore_n 3, 1) := by decide +kernel
theorem d_X2_multiply_106 : decode b_X2_multiply 106 = .ok (.lload 6, 2) := by decide +kernel
theorem d_X2_multiply_108 : decode b_X2_multiply 108 = .ok (.lload_n 3, 1) := by decide +kernel
theorem d_X2_multiply_109 : decode b_X2_multiply 109 = .ok (.bipush 48, 2) := by decide +kernel
theorem d_X2_multiply_111 : decode b_X2_multiply 111 = .ok (.lushr, 1) := by decide +kernel
theorem d_X2_multiply_112 : decode b_X2_multiply 112 = .ok (.ladd, 1) := by decide +kernel
theorem d_X2_multiply_113 : decode b_X2_multiply 113 = .ok (.lstore 6, 2) := by decide +kernel
theorem d_X2_multiply_115 : decode b_X2_multiply 115 = .ok (.lload_n 3, 1) := by decide +kernel
theorem d_X2_multiply_116 : decode b_X2_multiply 116 = .ok (.ldc2_w 60, 3) := by decide +kernel
theorem d_X2_multiply_119 : decode b_X2_multiply 119 = .ok (.land, 1) := by decide +kernel
theorem d_X2_multiply_120 : decode b_X2_multiply 120 = .ok (.lstore_n 3, 1) := by decide +kernel
theorem d_X2_multiply_121 : decode b_X2_multiply 121 = .ok (.iinc 8 1, 3) := by decide +kernel
theorem d_X2_multiply_124 : decode b_X2_multiply 124 = .ok (.goto (-58), 3) := by decide +kernel
theorem d_X2_multiply_127 : decode b_X2_multiply 127 = .ok (.aload_n 0, 1) := by decide +kernel
theorem d_X2_multiply_128 : decode b_X2_multiply 128 = .ok (.getfield 20, 3) := by decide +kernel
theorem d_X2_multiply_131 : decode b_X2_multiply 131 = .ok (.sipush 2200, 3) := by decide +kernel
theorem d_X2_multiply_134 : decode b_X2_multiply 134 = .ok (.iload 5, 2) := by decide +kernel
theorem d_X2_multiply_136 : decode b_X2_multiply 136 = .ok (.iadd, 1) := by decide +kernel
theorem d_X2_multiply_137 : decode b_X2_multiply 137 = .ok (.lload_n 3, 1) := by decide +kernel
theorem d_X2_multiply_138 : decode b_X2_multiply 138 = .ok (.ldc2_w 37, 3) := by decide +kernel
theorem d_X2_multiply_141 : decode b_X2_multiply 141 = .ok (.land, 1) := by decide +kernel
theorem d_X2_multiply_142 : decode b_X2_multiply 142 = .ok (.l2i, 1) := by decide +kernel
theorem d_X2_multiply_143 : decode b_X2_multiply 143 = .ok (.iastore, 1) := by decide +kernel
theorem d_X2_multiply_144 : decode b_X2_multiply 144 = .ok (.lload_n 3, 1) := by decide +kernel
theorem d_X2_multiply_145 : decode b_X2_multiply 145 = .ok (.bipush 16, 2) := by decide +kernel
theorem d_X2_multiply_147 : decode b_X2_multiply 147 = .ok (.lushr, 1) := by decide +kernel
theorem d_X2_multiply_148 : decode b_X2_multiply 148 = .ok (.lload 6, 2) := by decide +kernel
theorem d_X2_multiply_150 : decode b_X2_multiply 150 = .ok (.bipush 32, 2) := by decide +kernel
theorem d_X2_multiply_152 : decode b_X2_multiply 152 = .ok (.lshl, 1) := by decide +kernel
theorem d_X2_multiply_153 : decode b_X2_multiply 153 = .ok (.ladd, 1) := by decide +kernel
theorem d_X2_multiply_154 : decode b_X2_multiply 154 = .ok (.lstore_n 3, 1) := by decide +kernel
theorem d_X2_multiply_155 : decode b_X2_multiply 155 = .ok (.iinc 5 1, 3) := by decide +kernel
theorem d_X2_multiply_158 : decode b_X2_multiply 158 = .ok (.goto (-124), 3) := by decide +kernel
theorem d_X2_multiply_161 : decode b_X2_multiply 161 = .ok (.aload_n 0, 1) := by decide +kernel
theorem d_X2_multiply_162 : decode b_X2_multiply 162 = .ok (.getfield 17, 3) := by decide +kernel
theorem d_X2_multiply_165 : decode b_X2_multiply 165 = .ok (.iconst 2, 1) := by decide +kernel
theorem d_X2_multiply_166 : decode b_X2_multiply 166 = .ok (.aload_n 0, 1) := by decide +kernel
theorem d_X2_multiply_167 : decode b_X2_multiply 167 = .ok (.getfield 17, 3) := by decide +kernel
theorem d_X2_multiply_170 : decode b_X2_multiply 170 = .ok (.iconst 0, 1) := by decide +kernel
theorem d_X2_multiply_171 : decode b_X2_multiply 171 = .ok (.iaload, 1) := by decide +kernel
theorem d_X2_multiply_172 : decode b_X2_multiply 172 = .ok (.aload_n 0, 1) := by decide +kernel
theorem d_X2_multiply_173 : decode b_X2_multiply 173 = .ok (.getfield 17, 3) := by decide +kernel
theorem d_X2_multiply_176 : decode b_X2_multiply 176 = .ok (.iconst 1, 1) := by decide +kernel
theorem d_X2_multiply_177 : decode b_X2_multiply 177 = .ok (.iaload, 1) := by decide +kernel
theorem d_X2_multiply_178 : decode b_X2_multiply 178 = .ok (.imul, 1) := by decide +kernel
theorem d_X2_multiply_179 : decode b_X2_multiply 179 = .ok (.iastore, 1) := by decide +kernel
theorem d_X2_multiply_180 : decode b_X2_multiply 180 = .ok (.return_, 1) := by decide +kernel
theorem d_X2_subtractProduct_0 : decode b_X2_subtractProduct 0 = .ok (.aload_n 0, 1) := by decide +kernel
theorem d_X2_subtractProduct_1 : decode b_X2_subtractProduct 1 = .ok (.iload_n 1, 1) := by decide +kernel
theorem d_X2_subtractProduct_2 : decode b_X2_subtractProduct 2 = .ok (.iload_n 2, 1) := by decide +kernel
theorem d_X2_subtractProduct_3 : decode b_X2_subtractProduct 3 = .ok (.iload_n 3, 1) := by decide +kernel
theorem d_X2_subtractProduct_4 : decode b_X2_subtractProduct 4 = .ok (.iconst 1, 1) := by decide +kernel
theorem d_X2_subtractProduct_5 : decode b_X2_subtractProduct 5 = .ok (.invokevirtual 96, 3) := by decide +kernel
theorem d_X2_subtractProduct_8 : decode b_X2_subtractProduct 8 = .ok (.ireturn, 1) := by decide +kernel
theorem d_X2_times_0 : decode b_X2_times 0 = .ok (.aload_n 0, 1) := by decide +kernel
theorem d_X2_times_1 : decode b_X2_times 1 = .ok (.iload_n 1, 1) := by decide +kernel
theorem d_X2_times_2 : decode b_X2_times 2 = .ok (.invokestatic 62, 3) := by decide +kernel
theorem d_X2_times_5 : decode b_X2_times 5 = .ok (.ifCond .eq 7, 3) := by decide +kernel
theorem d_X2_times_8 : decode b_X2_times 8 = .ok (.iconst 0, 1) := by decide +kernel
theorem d_X2_times_9 : decode b_X2_times 9 = .ok (.goto 4, 3) := by decide +kernel
theorem d_X2_times_12 : decode b_X2_times 12 = .ok (.iconst 1, 1) := by decide +kernel
theorem d_X2_times_13 : decode b_X2_times 13 = .ok (.invokevirtual 65, 3) := by decide +kernel
theorem d_X2_times_16 : decode b_X2_times 16 = .ok (.ifCond .eq 5, 3) := by decide +kernel
theorem d_X2_times_19 : decode b_X2_times 19 = .ok (.iconst 0, 1) := by decide +kernel
theorem d_X2_times_20 : decode b_X2_times 20 = .ok (.ireturn, 1) := by decide +kernel
theorem d_X2_times_21 : decode b_X2_times 21 = .ok (.aload_n 0, 1) := by decide +kernel
theorem d_X2_times_22 : decode b_X2_times 22 = .ok (.iconst 0, 1) := by decide +kernel
theorem d_X2_times_23 : decode b_X2_times 23 = .ok (.iload_n 1, 1) := by decide +kernel
theorem d_X2_times_24 : decode b_X2_times 24 = .ok (.invokevirtual 53, 3) := by decide +kernel
theorem d_X2_times_27 : decode b_X2_times 27 = .ok (.aload_n 0, 1) := by decide +kernel
theorem d_X2_times_28 : decode b_X2_times 28 = .ok (.iconst 1, 1) := by decide +kernel
theorem d_X2_times_29 : decode b_X2_times 29 = .ok (.lload_n 2, 1) := by decide +kernel
theorem d_X2_times_30 : decode b_X2_times 30 = .ok (.invokevirtual 72, 3) := by decide +kernel
theorem d_X2_times_33 : decode b_X2_times 33 = .ok (.aload_n 0, 1) := by decide +kernel
theorem d_X2_times_34 : decode b_X2_times 34 = .ok (.invokevirtual 93, 3) := by decide +kernel
theorem d_X2_times_37 : decode b_X2_times 37 = .ok (.aload_n 0, 1) := by decide +kernel
theorem d_X2_times_38 : decode b_X2_times 38 = .ok (.iload_n 1, 1) := by decide +kernel
theorem d_X2_times_39 : decode b_X2_times 39 = .ok (.iconst 2, 1) := by decide +kernel
theorem d_X2_times_40 : decode b_X2_times 40 = .ok (.invokevirtual 86, 3) := by decide +kernel
theorem d_X2_times_43 : decode b_X2_times 43 = .ok (.ireturn, 1) := by decide +kernel
theorem d_X2_negate_0 : decode b_X2_negate 0 = .ok (.aload_n 0, 1) := by decide +kernel
theorem d_X2_negate_1 : decode b_X2_negate 1 = .ok (.iload_n 1, 1) := by decide +kernel
theorem d_X2_negate_2 : decode b_X2_negate 2 = .ok (.invokestatic 62, 3) := by decide +kernel
theorem d_X2_negate_5 : decode b_X2_negate 5 = .ok (.ifCond .eq 7, 3) := by decide +kernel
theorem d_X2_negate_8 : decode b_X2_negate 8 = .ok (.iconst 0, 1) := by decide +kernel
theorem d_X2_negate_9 : decode b_X2_negate 9 = .ok (.goto 4, 3) := by decide +kernel
theorem d_X2_negate_12 : decode b_X2_negate 12 = .ok (.iconst 1, 1) := by decide +kernel
theorem d_X2_negate_13 : decode b_X2_negate 13 = .ok (.invokevirtual 65, 3) := by decide +kernel
theorem d_X2_negate_16 : decode b_X2_negate 16 = .ok (.ifCond .eq 5, 3) := by decide +kernel
theorem d_X2_negate_19 : decode b_X2_negate 19 = .ok (.iconst 0, 1) := by decide +kernel
theorem d_X2_negate_20 : decode b_X2_negate 20 = .ok (.ireturn, 1) := by decide +kernel
theorem d_X2_negate_21 : decode b_X2_negate 21 = .ok (.aload_n 0, 1) := by decide +kernel
theorem d_X2_negate_22 : decode b_X2_negate 22 = .ok (.iconst 0, 1) := by decide +kernel
theorem d_X2_negate_23 : decode b_X2_negate 23 = .ok (.iload_n 1, 1) := by decide +kernel
theorem d_X2_negate_24 : decode b_X2_negate 24 = .ok (.invokevirtual 53, 3) := by decide +kernel
theorem d_X2_negate_27 : decode b_X2_negate 27 = .ok (.aload_n 0, 1) := by decide +kernel
theorem d_X2_negate_28 : decode b_X2_negate 28 = .ok (.getfield 17, 3) := by decide +kernel
theorem d_X2_negate_31 : decode b_X2_negate 31 = .ok (.iconst 0, 1) := by decide +kernel
theorem d_X2_negate_32 : decode b_X2_negate 32 = .ok (.aload_n 0, 1) := by decide +kernel
theorem d_X2_negate_33 : decode b_X2_negate 33 = .ok (.getfield 17, 3) := by decide +kernel
theorem d_X2_negate_36 : decode b_X2_negate 36 = .ok (.iconst 0, 1) := by decide +kernel
theorem d_X2_negate_37 : decode b_X2_negate 37 = .ok (.iaload, 1) := by decide +kernel
theorem d_X2_negate_38 : decode b_X2_negate 38 = .ok (.ineg, 1) := by decide +kernel
theorem d_X2_negate_39 : decode b_X2_negate 39 = .ok (.iastore, 1) := by decide +kernel
theorem d_X2_negate_40 : decode b_X2_negate 40 = .ok (.aload_n 0, 1) := by decide +kernel
theorem d_X2_negate_41 : decode b_X2_negate 41 = .ok (.iload_n 1, 1) := by decide +kernel
theorem d_X2_negate_42 : decode b_X2_negate 42 = .ok (.iconst 0, 1) := by decide +kernel
theorem d_X2_negate_43 : decode b_X2_negate 43 = .ok (.invokevirtual 68, 3) := by decide +kernel
theorem d_X2_negate_46 : decode b_X2_negate 46 = .ok (.ireturn, 1) := by decide +kernel
theorem d_X2_left_0 : decode b_X2_left 0 = .ok (.aload_n 0, 1) := by decide +kernel
theorem d_X2_left_1 : decode b_X2_left 1 = .ok (.iload_n 1, 1) := by decide +kernel
theorem d_X2_left_2 : decode b_X2_left 2 = .ok (.invokestatic 62, 3) := by decide +kernel
theorem d_X2_left_5 : decode b_X2_left 5 = .ok (.ifCond .ne 7, 3) := by decide +kernel
theorem d_X2_left_8 : decode b_X2_left 8 = .ok (.iconst 1, 1) := by decide +kernel
theorem d_X2_left_9 : decode b_X2_left 9 = .ok (.goto 19, 3) := by decide +kernel
theorem d_X2_left_12 : decode b_X2_left 12 = .ok (.iload_n 2, 1) := by decide +kernel
theorem d_X2_left_13 : decode b_X2_left 13 = .ok (.ifCond .lt 10, 3) := by decide +kernel
theorem d_X2_left_16 : decode b_X2_left 16 = .ok (.iload_n 2, 1) := by decide +kernel
theorem d_X2_left_17 : decode b_X2_left 17 = .ok (.sipush 8192, 3) := by decide +kernel
theorem d_X2_left_20 : decode b_X2_left 20 = .ok (.if_icmp .le 7, 3) := by decide +kernel
theorem d_X2_left_23 : decode b_X2_left 23 = .ok (.iconst 2, 1) := by decide +kernel
theorem d_X2_left_24 : decode b_X2_left 24 = .ok (.goto 4, 3) := by decide +kernel
theorem d_X2_left_27 : decode b_X2_left 27 = .ok (.iconst 0, 1) := by decide +kernel
theorem d_X2_left_28 : decode b_X2_left 28 = .ok (.invokevirtual 65, 3) := by decide +kernel
theorem d_X2_left_31 : decode b_X2_left 31 = .ok (.ifCond .eq 5, 3) := by decide +kernel
theorem d_X2_left_34 : decode b_X2_left 34 = .ok (.iconst 0, 1) := by decide +kernel
theorem d_X2_left_35 : decode b_X2_left 35 = .ok (.ireturn, 1) := by decide +kernel
theorem d_X2_left_36 : decode b_X2_left 36 = .ok (.aload_n 0, 1) := by decide +kernel
theorem d_X2_left_37 : decode b_X2_left 37 = .ok (.iconst 0, 1) := by decide +kernel
theorem d_X2_left_38 : decode b_X2_left 38 = .ok (.iload_n 1, 1) := by decide +kernel
theorem d_X2_left_39 : decode b_X2_left 39 = .ok (.invokevirtual 53, 3) := by decide +kernel
theorem d_X2_left_42 : decode b_X2_left 42 = .ok (.aload_n 0, 1) := by decide +kernel
theorem d_X2_left_43 : decode b_X2_left 43 = .ok (.iconst 1, 1) := by decide +kernel
theorem d_X2_left_44 : decode b_X2_left 44 = .ok (.invokevirtual 27, 3) := by decide +kernel
theorem d_X2_left_47 : decode b_X2_left 47 = .ok (.aload_n 0, 1) := by decide +kernel
theorem d_X2_left_48 : decode b_X2_left 48 = .ok (.iconst 0, 1) := by decide +kernel
theorem d_X2_left_49 : decode b_X2_left 49 = .ok (.invokevirtual 43, 3) := by decide +kernel
theorem d_X2_left_52 : decode b_X2_left 52 = .ok (.istore_n 3, 1) := by decide +kernel
theorem d_X2_left_53 : decode b_X2_left 53 = .ok (.iconst 0, 1) := by decide +kernel
theorem d_X2_left_54 : decode b_X2_left 54 = .ok (.istore 4, 2) := by decide +kernel
theorem d_X2_left_56 : decode b_X2_left 56 = .ok (.iload 4, 2) := by decide +kernel
theorem d_X2_left_58 : decode b_X2_left 58 = .ok (.iload_n 3, 1) := by decide +kernel
theorem d_X2_left_59 : decode b_X2_left 59 = .ok (.if_icmp .ge 57, 3) := by decide +kernel
theorem d_X2_left_62 : decode b_X2_left 62 = .ok (.aload_n 0, 1) := by decide +kernel
theorem d_X2_left_63 : decode b_X2_left 63 = .ok (.getfield 20, 3) := by decide +kernel
theorem d_X2_left_66 : decode b_X2_left 66 = .ok (.sipush 1100, 3) := by decide +kernel
theorem d_X2_left_69 : decode b_X2_left 69 = .ok (.iload 4, 2) := by decide +kernel
theorem d_X2_left_71 : decode b_X2_left 71 = .ok (.iload_n 2, 1) := by decide +kernel
theorem d_X2_left_72 : decode b_X2_left 72 = .ok (.iadd, 1) := by decide +kernel
theorem d_X2_left_73 : decode b_X2_left 73 = .ok (.bipush 16, 2) := by decide +kernel
theorem d_X2_left_75 : decode b_X2_left 75 = .ok (.idiv, 1) := by decide +kernel
theorem d_X2_left_76 : decode b_X2_left 76 = .ok (.iadd, 1) := by decide +kernel
theorem d_X2_left_77 : decode b_X2_left 77 = .ok (.aload_n 0, 1) := by decide +kernel
theorem d_X2_left_78 : decode b_X2_left 78 = .ok (.getfield 20, 3) := by decide +kernel
theorem d_X2_left_81 : decode b_X2_left 81 = .ok (.sipush 1100, 3) := by decide +kernel
theorem d_X2_left_84 : decode b_X2_left 84 = .ok (.iload 4, 2) := by decide +kernel
theorem d_X2_left_86 : decode b_X2_left 86 = .ok (.iload_n 2, 1) := by decide +kernel
theorem d_X2_left_87 : decode b_X2_left 87 = .ok (.iadd, 1) := by decide +kernel
theorem d_X2_left_88 : decode b_X2_left 88 = .ok (.bipush 16, 2) := by decide +kernel
theorem d_X2_left_90 : decode b_X2_left 90 = .ok (.idiv, 1) := by decide +kernel
theorem d_X2_left_91 : decode b_X2_left 91 = .ok (.iadd, 1) := by decide +kernel
theorem d_X2_left_92 : decode b_X2_left 92 = .ok (.iaload, 1) := by decide +kernel
theorem d_X2_left_93 : decode b_X2_left 93 = .ok (.aload_n 0, 1) := by decide +kernel
theorem d_X2_left_94 : decode b_X2_left 94 = .ok (.iconst 0, 1) := by decide +kernel
theorem d_X2_left_95 : decode b_X2_left 95 = .ok (.iload 4, 2) := by decide +kernel
theorem d_X2_left_97 : decode b_X2_left 97 = .ok (.invokevirtual 39, 3) := by decide +kernel
theorem d_X2_left_100 : decode b_X2_left 100 = .ok (.iload 4, 2) := by decide +kernel
theorem d_X2_left_102 : decode b_X2_left 102 = .ok (.iload_n 2, 1) := by decide +kernel
theorem d_X2_left_103 : decode b_X2_left 103 = .ok (.iadd, 1) := by decide +kernel
theorem d_X2_left_104 : decode b_X2_left 104 = .ok (.bipush 16, 2) := by decide +kernel
theorem d_X2_left_106 : decode b_X2_left 106 = .ok (.irem, 1) := by decide +kernel
theorem d_X2_left_107 : decode b_X2_left 107 = .ok (.ishl, 1) := by decide +kernel
theorem d_X2_left_108 : decode b_X2_left 108 = .ok (.ior, 1) := by decide +kernel
theorem d_X2_left_109 : decode b_X2_left 109 = .ok (.iastore, 1) := by decide +kernel
theorem d_X2_left_110 : decode b_X2_left 110 = .ok (.iinc 4 1, 3) := by decide +kernel
theorem d_X2_left_113 : decode b_X2_left 113 = .ok (.goto (-57), 3) := by decide +kernel
theorem d_X2_left_116 : decode b_X2_left 116 = .ok (.aload_n 0, 1) := by decide +kernel
theorem d_X2_left_117 : decode b_X2_left 117 = .ok (.getfield 17, 3) := by decide +kernel
theorem d_X2_left_120 : decode b_X2_left 120 = .ok (.iconst 1, 1) := by decide +kernel
theorem d_X2_left_121 : decode b_X2_left 121 = .ok (.aload_n 0, 1) := by decide +kernel
theorem d_X2_left_122 : decode b_X2_left 122 = .ok (.getfield 17, 3) := by decide +kernel
theorem d_X2_left_125 : decode b_X2_left 125 = .ok (.iconst 0, 1) := by decide +kernel
theorem d_X2_left_126 : decode b_X2_left 126 = .ok (.iaload, 1) := by decide +kernel
theorem d_X2_left_127 : decode b_X2_left 127 = .ok (.iastore, 1) := by decide +kernel
theorem d_X2_left_128 : decode b_X2_left 128 = .ok (.aload_n 0, 1) := by decide +kernel
theorem d_X2_left_129 : decode b_X2_left 129 = .ok (.iload_n 1, 1) := by decide +kernel
theorem d_X2_left_130 : decode b_X2_left 130 = .ok (.iconst 1, 1) := by decide +kernel
theorem d_X2_left_131 : decode b_X2_left 131 = .ok (.invokevirtual 86, 3) := by decide +kernel
theorem d_X2_left_134 : decode b_X2_left 134 = .ok (.ireturn, 1) := by decide +kernel
theorem d_X2_right_0 : decode b_X2_right 0 = .ok (.aload_n 0, 1) := by decide +kernel
theorem d_X2_right_1 : decode b_X2_right 1 = .ok (.iload_n 1, 1) := by decide +kernel
theorem d_X2_right_2 : decode b_X2_right 2 = .ok (.invokestatic 62, 3) := by decide +kernel
theorem d_X2_right_5 : decode b_X2_right 5 = .ok (.ifCond .ne 7, 3) := by decide +kernel
theorem d_X2_right_8 : decode b_X2_right 8 = .ok (.iconst 1, 1) := by decide +kernel
theorem d_X2_right_9 : decode b_X2_right 9 = .ok (.goto 19, 3) := by decide +kernel
theorem d_X2_right_12 : decode b_X2_right 12 = .ok (.iload_n 2, 1) := by decide +kernel
theorem d_X2_right_13 : decode b_X2_right 13 = .ok (.ifCond .lt 10, 3) := by decide +kernel
theorem d_X2_right_16 : decode b_X2_right 16 = .ok (.iload_n 2, 1) := by decide +kernel
theorem d_X2_right_17 : decode b_X2_right 17 = .ok (.sipush 8192, 3) := by decide +kernel
theorem d_X2_right_20 : decode b_X2_right 20 = .ok (.if_icmp .le 7, 3) := by decide +kernel
theorem d_X2_right_23 : decode b_X2_right 23 = .ok (.iconst 2, 1) := by decide +kernel
theorem d_X2_right_24 : decode b_X2_right 24 = .ok (.goto 4, 3) := by decide +kernel
theorem d_X2_right_27 : decode b_X2_right 27 = .ok (.iconst 0, 1) := by decide +kernel
theorem d_X2_right_28 : decode b_X2_right 28 = .ok (.invokevirtual 65, 3) := by decide +kernel
theorem d_X2_right_31 : decode b_X2_right 31 = .ok (.ifCond .eq 5, 3) := by decide +kernel
theorem d_X2_right_34 : decode b_X2_right 34 = .ok (.iconst 0, 1) := by decide +kernel
theorem d_X2_right_35 : decode b_X2_right 35 = .ok (.ireturn, 1) := by decide +kernel
theorem d_X2_right_36 : decode b_X2_right 36 = .ok (.aload_n 0, 1) := by decide +kernel
theorem d_X2_right_37 : decode b_X2_right 37 = .ok (.iconst 0, 1) := by decide +kernel
theorem d_X2_right_38 : decode b_X2_right 38 = .ok (.iload_n 1, 1) := by decide +kernel
theorem d_X2_right_39 : decode b_X2_right 39 = .ok (.invokevirtual 53, 3) := by decide +kernel
theorem d_X2_right_42 : decode b_X2_right 42 = .ok (.aload_n 0, 1) := by decide +kernel
theorem d_X2_right_43 : decode b_X2_right 43 = .ok (.iload_n 2, 1) := by decide +kernel
theorem d_X2_right_44 : decode b_X2_right 44 = .ok (.aload_n 0, 1) := by decide +kernel
theorem d_X2_right_45 : decode b_X2_right 45 = .ok (.getfield 17, 3) := by decide +kernel
theorem d_X2_right_48 : decode b_X2_right 48 = .ok (.iconst 0, 1) := by decide +kernel
theorem d_X2_right_49 : decode b_X2_right 49 = .ok (.iaload, 1) := by decide +kernel
theorem d_X2_right_50 : decode b_X2_right 50 = .ok (.ifCond .ge 16, 3) := by decide +kernel
theorem d_X2_right_53 : decode b_X2_right 53 = .ok (.aload_n 0, 1) := by decide +kernel
theorem d_X2_right_54 : decode b_X2_right 54 = .ok (.iconst 0, 1) := by decide +kernel
theorem d_X2_right_55 : decode b_X2_right 55 = .ok (.invokevirtual 47, 3) := by decide +kernel
theorem d_X2_right_58 : decode b_X2_right 58 = .ok (.iload_n 2, 1) := by decide +kernel
theorem d_X2_right_59 : decode b_X2_right 59 = .ok (.if_icmp .ge 7, 3) := by decide +kernel
theorem d_X2_right_62 : decode b_X2_right 62 = .ok (.iconst 1, 1) := by decide +kernel
theorem d_X2_right_63 : decode b_X2_right 63 = .ok (.goto 4, 3) := by decide +kernel
theorem d_X2_right_66 : decode b_X2_right 66 = .ok (.iconst 0, 1) := by decide +kernel
theorem d_X2_right_67 : decode b_X2_right 67 = .ok (.invokevirtual 100, 3) := by decide +kernel
theorem d_X2_right_70 : decode b_X2_right 70 = .ok (.aload_n 0, 1) := by decide +kernel
theorem d_X2_right_71 : decode b_X2_right 71 = .ok (.iload_n 1, 1) := by decide +kernel
theorem d_X2_right_72 : decode b_X2_right 72 = .ok (.iconst 1, 1) := by decide +kernel
theorem d_X2_right_73 : decode b_X2_right 73 = .ok (.invokevirtual 86, 3) := by decide +kernel
theorem d_X2_right_76 : decode b_X2_right 76 = .ok (.ireturn, 1) := by decide +kernel
theorem d_X2_halve_0 : decode b_X2_halve 0 = .ok (.aload_n 0, 1) := by decide +kernel
theorem d_X2_halve_1 : decode b_X2_halve 1 = .ok (.iconst 1, 1) := by decide +kernel
