theorem d_X1_init_0 : decode b_X1_init 0 = .ok (.aload_n 0, 1) := by decide +kernel
theorem d_X1_init_1 : decode b_X1_init 1 = .ok (.invokespecial 1, 3) := by decide +kernel
theorem d_X1_init_4 : decode b_X1_init 4 = .ok (.aload_n 0, 1) := by decide +kernel
theorem d_X1_init_5 : decode b_X1_init 5 = .ok (.bipush 64, 2) := by decide +kernel
theorem d_X1_init_7 : decode b_X1_init 7 = .ok (.anewarray 9, 3) := by decide +kernel
theorem d_X1_init_10 : decode b_X1_init 10 = .ok (.putfield 11, 3) := by decide +kernel
theorem d_X1_init_13 : decode b_X1_init 13 = .ok (.iconst 0, 1) := by decide +kernel
theorem d_X1_init_14 : decode b_X1_init 14 = .ok (.istore_n 1, 1) := by decide +kernel
theorem d_X1_init_15 : decode b_X1_init 15 = .ok (.iload_n 1, 1) := by decide +kernel
theorem d_X1_init_16 : decode b_X1_init 16 = .ok (.bipush 64, 2) := by decide +kernel
theorem d_X1_init_18 : decode b_X1_init 18 = .ok (.if_icmp .ge 22, 3) := by decide +kernel
theorem d_X1_init_21 : decode b_X1_init 21 = .ok (.aload_n 0, 1) := by decide +kernel
theorem d_X1_init_22 : decode b_X1_init 22 = .ok (.getfield 11, 3) := by decide +kernel
theorem d_X1_init_25 : decode b_X1_init 25 = .ok (.iload_n 1, 1) := by decide +kernel
theorem d_X1_init_26 : decode b_X1_init 26 = .ok (.new 9, 3) := by decide +kernel
theorem d_X1_init_29 : decode b_X1_init 29 = .ok (.dup, 1) := by decide +kernel
theorem d_X1_init_30 : decode b_X1_init 30 = .ok (.invokespecial 15, 3) := by decide +kernel
theorem d_X1_init_33 : decode b_X1_init 33 = .ok (.aastore, 1) := by decide +kernel
theorem d_X1_init_34 : decode b_X1_init 34 = .ok (.iinc 1 1, 3) := by decide +kernel
theorem d_X1_init_37 : decode b_X1_init 37 = .ok (.goto (-22), 3) := by decide +kernel
theorem d_X1_init_40 : decode b_X1_init 40 = .ok (.return_, 1) := by decide +kernel
theorem d_X1_widen_0 : decode b_X1_widen 0 = .ok (.aload_n 0, 1) := by decide +kernel
theorem d_X1_widen_1 : decode b_X1_widen 1 = .ok (.iload_n 1, 1) := by decide +kernel
theorem d_X1_widen_2 : decode b_X1_widen 2 = .ok (.invokevirtual 16, 3) := by decide +kernel
theorem d_X1_widen_5 : decode b_X1_widen 5 = .ok (.astore_n 3, 1) := by decide +kernel
theorem d_X1_widen_6 : decode b_X1_widen 6 = .ok (.iload_n 2, 1) := by decide +kernel
theorem d_X1_widen_7 : decode b_X1_widen 7 = .ok (.iconst 1, 1) := by decide +kernel
theorem d_X1_widen_8 : decode b_X1_widen 8 = .ok (.if_icmp .lt 10, 3) := by decide +kernel
theorem d_X1_widen_11 : decode b_X1_widen 11 = .ok (.iload_n 2, 1) := by decide +kernel
theorem d_X1_widen_12 : decode b_X1_widen 12 = .ok (.sipush 256, 3) := by decide +kernel
theorem d_X1_widen_15 : decode b_X1_widen 15 = .ok (.if_icmp .le 13, 3) := by decide +kernel
theorem d_X1_widen_18 : decode b_X1_widen 18 = .ok (.new 20, 3) := by decide +kernel
theorem d_X1_widen_21 : decode b_X1_widen 21 = .ok (.dup, 1) := by decide +kernel
theorem d_X1_widen_22 : decode b_X1_widen 22 = .ok (.ldc 22, 2) := by decide +kernel
theorem d_X1_widen_24 : decode b_X1_widen 24 = .ok (.invokespecial 24, 3) := by decide +kernel
theorem d_X1_widen_27 : decode b_X1_widen 27 = .ok (.athrow, 1) := by decide +kernel
theorem d_X1_widen_28 : decode b_X1_widen 28 = .ok (.aload_n 3, 1) := by decide +kernel
theorem d_X1_widen_29 : decode b_X1_widen 29 = .ok (.iload_n 2, 1) := by decide +kernel
theorem d_X1_widen_30 : decode b_X1_widen 30 = .ok (.invokevirtual 27, 3) := by decide +kernel
theorem d_X1_widen_33 : decode b_X1_widen 33 = .ok (.ireturn, 1) := by decide +kernel
theorem d_X1_rowAt_0 : decode b_X1_rowAt 0 = .ok (.iload_n 1, 1) := by decide +kernel
theorem d_X1_rowAt_1 : decode b_X1_rowAt 1 = .ok (.ifCond .lt 9, 3) := by decide +kernel
theorem d_X1_rowAt_4 : decode b_X1_rowAt 4 = .ok (.iload_n 1, 1) := by decide +kernel
theorem d_X1_rowAt_5 : decode b_X1_rowAt 5 = .ok (.bipush 64, 2) := by decide +kernel
theorem d_X1_rowAt_7 : decode b_X1_rowAt 7 = .ok (.if_icmp .lt 13, 3) := by decide +kernel
theorem d_X1_rowAt_10 : decode b_X1_rowAt 10 = .ok (.new 39, 3) := by decide +kernel
theorem d_X1_rowAt_13 : decode b_X1_rowAt 13 = .ok (.dup, 1) := by decide +kernel
theorem d_X1_rowAt_14 : decode b_X1_rowAt 14 = .ok (.ldc 120, 2) := by decide +kernel
theorem d_X1_rowAt_16 : decode b_X1_rowAt 16 = .ok (.invokespecial 43, 3) := by decide +kernel
theorem d_X1_rowAt_19 : decode b_X1_rowAt 19 = .ok (.athrow, 1) := by decide +kernel
theorem d_X1_rowAt_20 : decode b_X1_rowAt 20 = .ok (.aload_n 0, 1) := by decide +kernel
theorem d_X1_rowAt_21 : decode b_X1_rowAt 21 = .ok (.getfield 11, 3) := by decide +kernel
theorem d_X1_rowAt_24 : decode b_X1_rowAt 24 = .ok (.iload_n 1, 1) := by decide +kernel
theorem d_X1_rowAt_25 : decode b_X1_rowAt 25 = .ok (.aaload, 1) := by decide +kernel
theorem d_X1_rowAt_26 : decode b_X1_rowAt 26 = .ok (.areturn, 1) := by decide +kernel
theorem d_X1_width_0 : decode b_X1_width 0 = .ok (.aload_n 0, 1) := by decide +kernel
theorem d_X1_width_1 : decode b_X1_width 1 = .ok (.iload_n 1, 1) := by decide +kernel
theorem d_X1_width_2 : decode b_X1_width 2 = .ok (.invokevirtual 16, 3) := by decide +kernel
theorem d_X1_width_5 : decode b_X1_width 5 = .ok (.getfield 31, 3) := by decide +kernel
theorem d_X1_width_8 : decode b_X1_width 8 = .ok (.ireturn, 1) := by decide +kernel
theorem d_X1_set_0 : decode b_X1_set 0 = .ok (.aload_n 0, 1) := by decide +kernel
theorem d_X1_set_1 : decode b_X1_set 1 = .ok (.iload_n 1, 1) := by decide +kernel
theorem d_X1_set_2 : decode b_X1_set 2 = .ok (.invokevirtual 16, 3) := by decide +kernel
theorem d_X1_set_5 : decode b_X1_set 5 = .ok (.lload_n 2, 1) := by decide +kernel
theorem d_X1_set_6 : decode b_X1_set 6 = .ok (.invokevirtual 35, 3) := by decide +kernel
theorem d_X1_set_9 : decode b_X1_set 9 = .ok (.ireturn, 1) := by decide +kernel
theorem d_X1_put_0 : decode b_X1_put 0 = .ok (.aload_n 0, 1) := by decide +kernel
theorem d_X1_put_1 : decode b_X1_put 1 = .ok (.iload_n 1, 1) := by decide +kernel
theorem d_X1_put_2 : decode b_X1_put 2 = .ok (.invokevirtual 16, 3) := by decide +kernel
theorem d_X1_put_5 : decode b_X1_put 5 = .ok (.astore 4, 2) := by decide +kernel
theorem d_X1_put_7 : decode b_X1_put 7 = .ok (.iload_n 2, 1) := by decide +kernel
theorem d_X1_put_8 : decode b_X1_put 8 = .ok (.ifCond .lt 12, 3) := by decide +kernel
theorem d_X1_put_11 : decode b_X1_put 11 = .ok (.iload_n 2, 1) := by decide +kernel
theorem d_X1_put_12 : decode b_X1_put 12 = .ok (.aload 4, 2) := by decide +kernel
theorem d_X1_put_14 : decode b_X1_put 14 = .ok (.getfield 31, 3) := by decide +kernel
theorem d_X1_put_17 : decode b_X1_put 17 = .ok (.if_icmp .lt 13, 3) := by decide +kernel
theorem d_X1_put_20 : decode b_X1_put 20 = .ok (.new 39, 3) := by decide +kernel
theorem d_X1_put_23 : decode b_X1_put 23 = .ok (.dup, 1) := by decide +kernel
theorem d_X1_put_24 : decode b_X1_put 24 = .ok (.ldc 41, 2) := by decide +kernel
theorem d_X1_put_26 : decode b_X1_put 26 = .ok (.invokespecial 43, 3) := by decide +kernel
theorem d_X1_put_29 : decode b_X1_put 29 = .ok (.athrow, 1) := by decide +kernel
theorem d_X1_put_30 : decode b_X1_put 30 = .ok (.aload 4, 2) := by decide +kernel
theorem d_X1_put_32 : decode b_X1_put 32 = .ok (.getfield 44, 3) := by decide +kernel
theorem d_X1_put_35 : decode b_X1_put 35 = .ok (.iload_n 2, 1) := by decide +kernel
theorem d_X1_put_36 : decode b_X1_put 36 = .ok (.iaload, 1) := by decide +kernel
theorem d_X1_put_37 : decode b_X1_put 37 = .ok (.istore 5, 2) := by decide +kernel
theorem d_X1_put_39 : decode b_X1_put 39 = .ok (.aload 4, 2) := by decide +kernel
theorem d_X1_put_41 : decode b_X1_put 41 = .ok (.getfield 44, 3) := by decide +kernel
theorem d_X1_put_44 : decode b_X1_put 44 = .ok (.iload_n 2, 1) := by decide +kernel
theorem d_X1_put_45 : decode b_X1_put 45 = .ok (.iload_n 3, 1) := by decide +kernel
theorem d_X1_put_46 : decode b_X1_put 46 = .ok (.iastore, 1) := by decide +kernel
theorem d_X1_put_47 : decode b_X1_put 47 = .ok (.iload 5, 2) := by decide +kernel
theorem d_X1_put_49 : decode b_X1_put 49 = .ok (.ireturn, 1) := by decide +kernel
theorem d_X1_limb_0 : decode b_X1_limb 0 = .ok (.aload_n 0, 1) := by decide +kernel
theorem d_X1_limb_1 : decode b_X1_limb 1 = .ok (.iload_n 1, 1) := by decide +kernel
theorem d_X1_limb_2 : decode b_X1_limb 2 = .ok (.invokevirtual 16, 3) := by decide +kernel
theorem d_X1_limb_5 : decode b_X1_limb 5 = .ok (.astore_n 3, 1) := by decide +kernel
theorem d_X1_limb_6 : decode b_X1_limb 6 = .ok (.iload_n 2, 1) := by decide +kernel
theorem d_X1_limb_7 : decode b_X1_limb 7 = .ok (.ifCond .ge 13, 3) := by decide +kernel
theorem d_X1_limb_10 : decode b_X1_limb 10 = .ok (.new 39, 3) := by decide +kernel
theorem d_X1_limb_13 : decode b_X1_limb 13 = .ok (.dup, 1) := by decide +kernel
theorem d_X1_limb_14 : decode b_X1_limb 14 = .ok (.ldc 41, 2) := by decide +kernel
theorem d_X1_limb_16 : decode b_X1_limb 16 = .ok (.invokespecial 43, 3) := by decide +kernel
theorem d_X1_limb_19 : decode b_X1_limb 19 = .ok (.athrow, 1) := by decide +kernel
theorem d_X1_limb_20 : decode b_X1_limb 20 = .ok (.aload_n 3, 1) := by decide +kernel
theorem d_X1_limb_21 : decode b_X1_limb 21 = .ok (.iload_n 2, 1) := by decide +kernel
theorem d_X1_limb_22 : decode b_X1_limb 22 = .ok (.invokevirtual 48, 3) := by decide +kernel
theorem d_X1_limb_25 : decode b_X1_limb 25 = .ok (.ireturn, 1) := by decide +kernel
theorem d_X1_copy_0 : decode b_X1_copy 0 = .ok (.aload_n 0, 1) := by decide +kernel
theorem d_X1_copy_1 : decode b_X1_copy 1 = .ok (.iload_n 1, 1) := by decide +kernel
theorem d_X1_copy_2 : decode b_X1_copy 2 = .ok (.invokevirtual 16, 3) := by decide +kernel
theorem d_X1_copy_5 : decode b_X1_copy 5 = .ok (.astore_n 3, 1) := by decide +kernel
theorem d_X1_copy_6 : decode b_X1_copy 6 = .ok (.aload_n 0, 1) := by decide +kernel
theorem d_X1_copy_7 : decode b_X1_copy 7 = .ok (.iload_n 2, 1) := by decide +kernel
theorem d_X1_copy_8 : decode b_X1_copy 8 = .ok (.invokevirtual 16, 3) := by decide +kernel
theorem d_X1_copy_11 : decode b_X1_copy 11 = .ok (.astore 4, 2) := by decide +kernel
theorem d_X1_copy_13 : decode b_X1_copy 13 = .ok (.aload_n 3, 1) := by decide +kernel
theorem d_X1_copy_14 : decode b_X1_copy 14 = .ok (.aload 4, 2) := by decide +kernel
theorem d_X1_copy_16 : decode b_X1_copy 16 = .ok (.invokevirtual 52, 3) := by decide +kernel
theorem d_X1_copy_19 : decode b_X1_copy 19 = .ok (.ireturn, 1) := by decide +kernel
theorem d_X1_add_0 : decode b_X1_add 0 = .ok (.aload_n 0, 1) := by decide +kernel
theorem d_X1_add_1 : decode b_X1_add 1 = .ok (.iload_n 1, 1) := by decide +kernel
theorem d_X1_add_2 : decode b_X1_add 2 = .ok (.invokevirtual 16, 3) := by decide +kernel
theorem d_X1_add_5 : decode b_X1_add 5 = .ok (.astore_n 3, 1) := by decide +kernel
theorem d_X1_add_6 : decode b_X1_add 6 = .ok (.aload_n 0, 1) := by decide +kernel
theorem d_X1_add_7 : decode b_X1_add 7 = .ok (.iload_n 2, 1) := by decide +kernel
theorem d_X1_add_8 : decode b_X1_add 8 = .ok (.invokevirtual 16, 3) := by decide +kernel
theorem d_X1_add_11 : decode b_X1_add 11 = .ok (.astore 4, 2) := by decide +kernel
theorem d_X1_add_13 : decode b_X1_add 13 = .ok (.aload_n 3, 1) := by decide +kernel
theorem d_X1_add_14 : decode b_X1_add 14 = .ok (.iconst 0, 1) := by decide +kernel
theorem d_X1_add_15 : decode b_X1_add 15 = .ok (.aload 4, 2) := by decide +kernel
theorem d_X1_add_17 : decode b_X1_add 17 = .ok (.invokevirtual 56, 3) := by decide +kernel
theorem d_X1_add_20 : decode b_X1_add 20 = .ok (.aload_n 3, 1) := by decide +kernel
theorem d_X1_add_21 : decode b_X1_add 21 = .ok (.invokevirtual 60, 3) := by decide +kernel
theorem d_X1_add_24 : decode b_X1_add 24 = .ok (.ireturn, 1) := by decide +kernel
theorem d_X1_subtract_0 : decode b_X1_subtract 0 = .ok (.aload_n 0, 1) := by decide +kernel
theorem d_X1_subtract_1 : decode b_X1_subtract 1 = .ok (.iload_n 1, 1) := by decide +kernel
theorem d_X1_subtract_2 : decode b_X1_subtract 2 = .ok (.invokevirtual 16, 3) := by decide +kernel
theorem d_X1_subtract_5 : decode b_X1_subtract 5 = .ok (.astore_n 3, 1) := by decide +kernel
theorem d_X1_subtract_6 : decode b_X1_subtract 6 = .ok (.aload_n 0, 1) := by decide +kernel
theorem d_X1_subtract_7 : decode b_X1_subtract 7 = .ok (.iload_n 2, 1) := by decide +kernel
theorem d_X1_subtract_8 : decode b_X1_subtract 8 = .ok (.invokevirtual 16, 3) := by decide +kernel
theorem d_X1_subtract_11 : decode b_X1_subtract 11 = .ok (.astore 4, 2) := by decide +kernel
theorem d_X1_subtract_13 : decode b_X1_subtract 13 = .ok (.aload_n 3, 1) := by decide +kernel
theorem d_X1_subtract_14 : decode b_X1_subtract 14 = .ok (.iconst 0, 1) := by decide +kernel
theorem d_X1_subtract_15 : decode b_X1_subtract 15 = .ok (.aload 4, 2) := by decide +kernel
theorem d_X1_subtract_17 : decode b_X1_subtract 17 = .ok (.invokevirtual 64, 3) := by decide +kernel
theorem d_X1_subtract_20 : decode b_X1_subtract 20 = .ok (.aload_n 3, 1) := by decide +kernel
theorem d_X1_subtract_21 : decode b_X1_subtract 21 = .ok (.invokevirtual 60, 3) := by decide +kernel
theorem d_X1_subtract_24 : decode b_X1_subtract 24 = .ok (.ireturn, 1) := by decide +kernel
theorem d_X1_addProduct_0 : decode b_X1_addProduct 0 = .ok (.aload_n 0, 1) := by decide +kernel
theorem d_X1_addProduct_1 : decode b_X1_addProduct 1 = .ok (.iload_n 1, 1) := by decide +kernel
theorem d_X1_addProduct_2 : decode b_X1_addProduct 2 = .ok (.invokevirtual 16, 3) := by decide +kernel
theorem d_X1_addProduct_5 : decode b_X1_addProduct 5 = .ok (.astore 4, 2) := by decide +kernel
theorem d_X1_addProduct_7 : decode b_X1_addProduct 7 = .ok (.aload_n 0, 1) := by decide +kernel
theorem d_X1_addProduct_8 : decode b_X1_addProduct 8 = .ok (.iload_n 2, 1) := by decide +kernel
theorem d_X1_addProduct_9 : decode b_X1_addProduct 9 = .ok (.invokevirtual 16, 3) := by decide +kernel
theorem d_X1_addProduct_12 : decode b_X1_addProduct 12 = .ok (.astore 5, 2) := by decide +kernel
theorem d_X1_addProduct_14 : decode b_X1_addProduct 14 = .ok (.aload_n 0, 1) := by decide +kernel
theorem d_X1_addProduct_15 : decode b_X1_addProduct 15 = .ok (.iload_n 3, 1) := by decide +kernel
theorem d_X1_addProduct_16 : decode b_X1_addProduct 16 = .ok (.invokevirtual 16, 3) := by decide +kernel
theorem d_X1_addProduct_19 : decode b_X1_addProduct 19 = .ok (.astore 6, 2) := by decide +kernel
theorem d_X1_addProduct_21 : decode b_X1_addProduct 21 = .ok (.iload_n 1, 1) := by decide +kernel
theorem d_X1_addProduct_22 : decode b_X1_addProduct 22 = .ok (.iload_n 2, 1) := by decide +kernel
theorem d_X1_addProduct_23 : decode b_X1_addProduct 23 = .ok (.iload_n 3, 1) := by decide +kernel
theorem d_X1_addProduct_24 : decode b_X1_addProduct 24 = .ok (.invokestatic 67, 3) := by decide +kernel
theorem d_X1_addProduct_27 : decode b_X1_addProduct 27 = .ok (.aload 4, 2) := by decide +kernel
theorem d_X1_addProduct_29 : decode b_X1_addProduct 29 = .ok (.aload 5, 2) := by decide +kernel
theorem d_X1_addProduct_31 : decode b_X1_addProduct 31 = .ok (.aload 6, 2) := by decide +kernel
theorem d_X1_addProduct_33 : decode b_X1_addProduct 33 = .ok (.invokevirtual 71, 3) := by decide +kernel
theorem d_X1_addProduct_36 : decode b_X1_addProduct 36 = .ok (.aload 4, 2) := by decide +kernel
theorem d_X1_addProduct_38 : decode b_X1_addProduct 38 = .ok (.invokevirtual 60, 3) := by decide +kernel
theorem d_X1_addProduct_41 : decode b_X1_addProduct 41 = .ok (.ireturn, 1) := by decide +kernel
theorem d_X1_refuseOwnFactor_0 : decode b_X1_refuseOwnFactor 0 = .ok (.iload_n 0, 1) := by decide +kernel
theorem d_X1_refuseOwnFactor_1 : decode b_X1_refuseOwnFactor 1 = .ok (.iload_n 1, 1) := by decide +kernel
theorem d_X1_refuseOwnFactor_2 : decode b_X1_refuseOwnFactor 2 = .ok (.if_icmp .eq 8, 3) := by decide +kernel
theorem d_X1_refuseOwnFactor_5 : decode b_X1_refuseOwnFactor 5 = .ok (.iload_n 0, 1) := by decide +kernel
theorem d_X1_refuseOwnFactor_6 : decode b_X1_refuseOwnFactor 6 = .ok (.iload_n 2, 1) := by decide +kernel
theorem d_X1_refuseOwnFactor_7 : decode b_X1_refuseOwnFactor 7 = .ok (.if_icmp .ne 13, 3) := by decide +kernel
theorem d_X1_refuseOwnFactor_10 : decode b_X1_refuseOwnFactor 10 = .ok (.new 20, 3) := by decide +kernel
theorem d_X1_refuseOwnFactor_13 : decode b_X1_refuseOwnFactor 13 = .ok (.dup, 1) := by decide +kernel
theorem d_X1_refuseOwnFactor_14 : decode b_X1_refuseOwnFactor 14 = .ok (.ldc 122, 2) := by decide +kernel
theorem d_X1_refuseOwnFactor_16 : decode b_X1_refuseOwnFactor 16 = .ok (.invokespecial 24, 3) := by decide +kernel
theorem d_X1_refuseOwnFactor_19 : decode b_X1_refuseOwnFactor 19 = .ok (.athrow, 1) := by decide +kernel
theorem d_X1_refuseOwnFactor_20 : decode b_X1_refuseOwnFactor 20 = .ok (.return_, 1) := by decide +kernel
theorem d_X1_subtractProduct_0 : decode b_X1_subtractProduct 0 = .ok (.aload_n 0, 1) := by decide +kernel
theorem d_X1_subtractProduct_1 : decode b_X1_subtractProduct 1 = .ok (.iload_n 1, 1) := by decide +kernel
theorem d_X1_subtractProduct_2 : decode b_X1_subtractProduct 2 = .ok (.invokevirtual 16, 3) := by decide +kernel
theorem d_X1_subtractProduct_5 : decode b_X1_subtractProduct 5 = .ok (.astore 4, 2) := by decide +kernel
theorem d_X1_subtractProduct_7 : decode b_X1_subtractProduct 7 = .ok (.aload_n 0, 1) := by decide +kernel
theorem d_X1_subtractProduct_8 : decode b_X1_subtractProduct 8 = .ok (.iload_n 2, 1) := by decide +kernel
theorem d_X1_subtractProduct_9 : decode b_X1_subtractProduct 9 = .ok (.invokevirtual 16, 3) := by decide +kernel
theorem d_X1_subtractProduct_12 : decode b_X1_subtractProduct 12 = .ok (.astore 5, 2) := by decide +kernel
theorem d_X1_subtractProduct_14 : decode b_X1_subtractProduct 14 = .ok (.aload_n 0, 1) := by decide +kernel
theorem d_X1_subtractProduct_15 : decode b_X1_subtractProduct 15 = .ok (.iload_n 3, 1) := by decide +kernel
theorem d_X1_subtractProduct_16 : decode b_X1_subtractProduct 16 = .ok (.invokevirtual 16, 3) := by decide +kernel
theorem d_X1_subtractProduct_19 : decode b_X1_subtractProduct 19 = .ok (.astore 6, 2) := by decide +kernel
theorem d_X1_subtractProduct_21 : decode b_X1_subtractProduct 21 = .ok (.iload_n 1, 1) := by decide +kernel
theorem d_X1_subtractProduct_22 : decode b_X1_subtractProduct 22 = .ok (.iload_n 2, 1) := by decide +kernel
theorem d_X1_subtractProduct_23 : decode b_X1_subtractProduct 23 = .ok (.iload_n 3, 1) := by decide +kernel
theorem d_X1_subtractProduct_24 : decode b_X1_subtractProduct 24 = .ok (.invokestatic 67, 3) := by decide +kernel
theorem d_X1_subtractProduct_27 : decode b_X1_subtractProduct 27 = .ok (.aload 4, 2) := by decide +kernel
theorem d_X1_subtractProduct_29 : decode b_X1_subtractProduct 29 = .ok (.aload 5, 2) := by decide +kernel
theorem d_X1_subtractProduct_31 : decode b_X1_subtractProduct 31 = .ok (.aload 6, 2) := by decide +kernel
theorem d_X1_subtractProduct_33 : decode b_X1_subtractProduct 33 = .ok (.invokevirtual 75, 3) := by decide +kernel
theorem d_X1_subtractProduct_36 : decode b_X1_subtractProduct 36 = .ok (.aload 4, 2) := by decide +kernel
theorem d_X1_subtractProduct_38 : decode b_X1_subtractProduct 38 = .ok (.invokevirtual 60, 3) := by decide +kernel
theorem d_X1_subtractProduct_41 : decode b_X1_subtractProduct 41 = .ok (.ireturn, 1) := by decide +kernel
theorem d_X1_times_0 : decode b_X1_times 0 = .ok (.aload_n 0, 1) := by decide +kernel
theorem d_X1_times_1 : decode b_X1_times 1 = .ok (.iload_n 1, 1) := by decide +kernel
theorem d_X1_times_2 : decode b_X1_times 2 = .ok (.invokevirtual 16, 3) := by decide +kernel
theorem d_X1_times_5 : decode b_X1_times 5 = .ok (.astore 4, 2) := by decide +kernel
theorem d_X1_times_7 : decode b_X1_times 7 = .ok (.aload 4, 2) := by decide +kernel
theorem d_X1_times_9 : decode b_X1_times 9 = .ok (.lload_n 2, 1) := by decide +kernel
theorem d_X1_times_10 : decode b_X1_times 10 = .ok (.invokevirtual 78, 3) := by decide +kernel
theorem d_X1_times_13 : decode b_X1_times 13 = .ok (.aload 4, 2) := by decide +kernel
theorem d_X1_times_15 : decode b_X1_times 15 = .ok (.invokevirtual 60, 3) := by decide +kernel
theorem d_X1_times_18 : decode b_X1_times 18 = .ok (.ireturn, 1) := by decide +kernel
theorem d_X1_negate_0 : decode b_X1_negate 0 = .ok (.aload_n 0, 1) := by decide +kernel
theorem d_X1_negate_1 : decode b_X1_negate 1 = .ok (.iload_n 1, 1) := by decide +kernel
theorem d_X1_negate_2 : decode b_X1_negate 2 = .ok (.invokevirtual 16, 3) := by decide +kernel
theorem d_X1_negate_5 : decode b_X1_negate 5 = .ok (.invokevirtual 82, 3) := by decide +kernel
theorem d_X1_negate_8 : decode b_X1_negate 8 = .ok (.ireturn, 1) := by decide +kernel
theorem d_X1_left_0 : decode b_X1_left 0 = .ok (.aload_n 0, 1) := by decide +kernel
theorem d_X1_left_1 : decode b_X1_left 1 = .ok (.iload_n 1, 1) := by decide +kernel
theorem d_X1_left_2 : decode b_X1_left 2 = .ok (.invokevirtual 16, 3) := by decide +kernel
theorem d_X1_left_5 : decode b_X1_left 5 = .ok (.astore_n 3, 1) := by decide +kernel
theorem d_X1_left_6 : decode b_X1_left 6 = .ok (.iload_n 2, 1) := by decide +kernel
theorem d_X1_left_7 : decode b_X1_left 7 = .ok (.invokestatic 86, 3) := by decide +kernel
theorem d_X1_left_10 : decode b_X1_left 10 = .ok (.aload_n 3, 1) := by decide +kernel
theorem d_X1_left_11 : decode b_X1_left 11 = .ok (.iload_n 2, 1) := by decide +kernel
theorem d_X1_left_12 : decode b_X1_left 12 = .ok (.invokevirtual 90, 3) := by decide +kernel
theorem d_X1_left_15 : decode b_X1_left 15 = .ok (.aload_n 3, 1) := by decide +kernel
theorem d_X1_left_16 : decode b_X1_left 16 = .ok (.invokevirtual 60, 3) := by decide +kernel
theorem d_X1_left_19 : decode b_X1_left 19 = .ok (.ireturn, 1) := by decide +kernel
theorem d_X1_refuseShift_0 : decode b_X1_refuseShift 0 = .ok (.iload_n 0, 1) := by decide +kernel
theorem d_X1_refuseShift_1 : decode b_X1_refuseShift 1 = .ok (.ifCond .lt 10, 3) := by decide +kernel
theorem d_X1_refuseShift_4 : decode b_X1_refuseShift 4 = .ok (.iload_n 0, 1) := by decide +kernel
theorem d_X1_refuseShift_5 : decode b_X1_refuseShift 5 = .ok (.sipush 8192, 3) := by decide +kernel
theorem d_X1_refuseShift_8 : decode b_X1_refuseShift 8 = .ok (.if_icmp .le 13, 3) := by decide +kernel
theorem d_X1_refuseShift_11 : decode b_X1_refuseShift 11 = .ok (.new 20, 3) := by decide +kernel
theorem d_X1_refuseShift_14 : decode b_X1_refuseShift 14 = .ok (.dup, 1) := by decide +kernel
theorem d_X1_refuseShift_15 : decode b_X1_refuseShift 15 = .ok (.ldc 124, 2) := by decide +kernel
theorem d_X1_refuseShift_17 : decode b_X1_refuseShift 17 = .ok (.invokespecial 24, 3) := by decide +kernel
theorem d_X1_refuseShift_20 : decode b_X1_refuseShift 20 = .ok (.athrow, 1) := by decide +kernel
theorem d_X1_refuseShift_21 : decode b_X1_refuseShift 21 = .ok (.return_, 1) := by decide +kernel
theorem d_X1_right_0 : decode b_X1_right 0 = .ok (.aload_n 0, 1) := by decide +kernel
theorem d_X1_right_1 : decode b_X1_right 1 = .ok (.iload_n 1, 1) := by decide +kernel
theorem d_X1_right_2 : decode b_X1_right 2 = .ok (.invokevirtual 16, 3) := by decide +kernel
theorem d_X1_right_5 : decode b_X1_right 5 = .ok (.astore_n 3, 1) := by decide +kernel
theorem d_X1_right_6 : decode b_X1_right 6 = .ok (.iload_n 2, 1) := by decide +kernel
theorem d_X1_right_7 : decode b_X1_right 7 = .ok (.invokestatic 86, 3) := by decide +kernel
theorem d_X1_right_10 : decode b_X1_right 10 = .ok (.aload_n 3, 1) := by decide +kernel
theorem d_X1_right_11 : decode b_X1_right 11 = .ok (.iload_n 2, 1) := by decide +kernel
theorem d_X1_right_12 : decode b_X1_right 12 = .ok (.invokevirtual 93, 3) := by decide +kernel
theorem d_X1_right_15 : decode b_X1_right 15 = .ok (.aload_n 3, 1) := by decide +kernel
theorem d_X1_right_16 : decode b_X1_right 16 = .ok (.invokevirtual 60, 3) := by decide +kernel
theorem d_X1_right_19 : decode b_X1_right 19 = .ok (.ireturn, 1) := by decide +kernel
theorem d_X1_nearest_0 : decode b_X1_nearest 0 = .ok (.aload_n 0, 1) := by decide +kernel
theorem d_X1_nearest_1 : decode b_X1_nearest 1 = .ok (.iload_n 1, 1) := by decide +kernel
theorem d_X1_nearest_2 : decode b_X1_nearest 2 = .ok (.invokevirtual 16, 3) := by decide +kernel
theorem d_X1_nearest_5 : decode b_X1_nearest 5 = .ok (.astore_n 3, 1) := by decide +kernel
theorem d_X1_nearest_6 : decode b_X1_nearest 6 = .ok (.iload_n 2, 1) := by decide +kernel
theorem d_X1_nearest_7 : decode b_X1_nearest 7 = .ok (.invokestatic 86, 3) := by decide +kernel
theorem d_X1_nearest_10 : decode b_X1_nearest 10 = .ok (.aload_n 3, 1) := by decide +kernel
theorem d_X1_nearest_11 : decode b_X1_nearest 11 = .ok (.iload_n 2, 1) := by decide +kernel
theorem d_X1_nearest_12 : decode b_X1_nearest 12 = .ok (.invokevirtual 96, 3) := by decide +kernel
theorem d_X1_nearest_15 : decode b_X1_nearest 15 = .ok (.istore 4, 2) := by decide +kernel
theorem d_X1_nearest_17 : decode b_X1_nearest 17 = .ok (.aload_n 3, 1) := by decide +kernel
theorem d_X1_nearest_18 : decode b_X1_nearest 18 = .ok (.iload_n 2, 1) := by decide +kernel
theorem d_X1_nearest_19 : decode b_X1_nearest 19 = .ok (.invokevirtual 93, 3) := by decide +kernel
theorem d_X1_nearest_22 : decode b_X1_nearest 22 = .ok (.iload 4, 2) := by decide +kernel
theorem d_X1_nearest_24 : decode b_X1_nearest 24 = .ok (.ifCond .eq 7, 3) := by decide +kernel
theorem d_X1_nearest_27 : decode b_X1_nearest 27 = .ok (.aload_n 3, 1) := by decide +kernel
theorem d_X1_nearest_28 : decode b_X1_nearest 28 = .ok (.invokevirtual 99, 3) := by decide +kernel
theorem d_X1_nearest_31 : decode b_X1_nearest 31 = .ok (.aload_n 3, 1) := by decide +kernel
theorem d_X1_nearest_32 : decode b_X1_nearest 32 = .ok (.invokevirtual 60, 3) := by decide +kernel
theorem d_X1_nearest_35 : decode b_X1_nearest 35 = .ok (.ireturn, 1) := by decide +kernel
theorem d_X1_divide_0 : decode b_X1_divide 0 = .ok (.aload_n 0, 1) := by decide +kernel
theorem d_X1_divide_1 : decode b_X1_divide 1 = .ok (.iload_n 1, 1) := by decide +kernel
theorem d_X1_divide_2 : decode b_X1_divide 2 = .ok (.invokevirtual 16, 3) := by decide +kernel
theorem d_X1_divide_5 : decode b_X1_divide 5 = .ok (.astore 4, 2) := by decide +kernel
theorem d_X1_divide_7 : decode b_X1_divide 7 = .ok (.lload_n 2, 1) := by decide +kernel
theorem d_X1_divide_8 : decode b_X1_divide 8 = .ok (.lconst 1, 1) := by decide +kernel
theorem d_X1_divide_9 : decode b_X1_divide 9 = .ok (.lcmp, 1) := by decide +kernel
theorem d_X1_divide_10 : decode b_X1_divide 10 = .ok (.ifCond .lt 11, 3) := by decide +kernel
theorem d_X1_divide_13 : decode b_X1_divide 13 = .ok (.lload_n 2, 1) := by decide +kernel
theorem d_X1_divide_14 : decode b_X1_divide 14 = .ok (.ldc2_w 102, 3) := by decide +kernel
theorem d_X1_divide_17 : decode b_X1_divide 17 = .ok (.lcmp, 1) := by decide +kernel
theorem d_X1_divide_18 : decode b_X1_divide 18 = .ok (.ifCond .le 13, 3) := by decide +kernel
theorem d_X1_divide_21 : decode b_X1_divide 21 = .ok (.new 20, 3) := by decide +kernel
theorem d_X1_divide_24 : decode b_X1_divide 24 = .ok (.dup, 1) := by decide +kernel
theorem d_X1_divide_25 : decode b_X1_divide 25 = .ok (.ldc 104, 2) := by decide +kernel
theorem d_X1_divide_27 : decode b_X1_divide 27 = .ok (.invokespecial 24, 3) := by decide +kernel
theorem d_X1_divide_30 : decode b_X1_divide 30 = .ok (.athrow, 1) := by decide +kernel
theorem d_X1_divide_31 : decode b_X1_divide 31 = .ok (.aload 4, 2) := by decide +kernel
theorem d_X1_divide_33 : decode b_X1_divide 33 = .ok (.lload_n 2, 1) := by decide +kernel
theorem d_X1_divide_34 : decode b_X1_divide 34 = .ok (.invokevirtual 106, 3) := by decide +kernel
theorem d_X1_divide_37 : decode b_X1_divide 37 = .ok (.lreturn, 1) := by decide +kernel
theorem d_X1_zeros_0 : decode b_X1_zeros 0 = .ok (.aload_n 0, 1) := by decide +kernel
theorem d_X1_zeros_1 : decode b_X1_zeros 1 = .ok (.iload_n 1, 1) := by decide +kernel
theorem d_X1_zeros_2 : decode b_X1_zeros 2 = .ok (.invokevirtual 16, 3) := by decide +kernel
theorem d_X1_zeros_5 : decode b_X1_zeros 5 = .ok (.invokevirtual 110, 3) := by decide +kernel
theorem d_X1_zeros_8 : decode b_X1_zeros 8 = .ok (.ireturn, 1) := by decide +kernel
theorem d_X1_length_0 : decode b_X1_length 0 = .ok (.aload_n 0, 1) := by decide +kernel
theorem d_X1_length_1 : decode b_X1_length 1 = .ok (.iload_n 1, 1) := by decide +kernel
theorem d_X1_length_2 : decode b_X1_length 2 = .ok (.invokevirtual 16, 3) := by decide +kernel
theorem d_X1_length_5 : decode b_X1_length 5 = .ok (.invokevirtual 113, 3) := by decide +kernel
theorem d_X1_length_8 : decode b_X1_length 8 = .ok (.ireturn, 1) := by decide +kernel
theorem d_X1_sign_0 : decode b_X1_sign 0 = .ok (.aload_n 0, 1) := by decide +kernel
theorem d_X1_sign_1 : decode b_X1_sign 1 = .ok (.iload_n 1, 1) := by decide +kernel
theorem d_X1_sign_2 : decode b_X1_sign 2 = .ok (.invokevirtual 16, 3) := by decide +kernel
theorem d_X1_sign_5 : decode b_X1_sign 5 = .ok (.invokevirtual 60, 3) := by decide +kernel
theorem d_X1_sign_8 : decode b_X1_sign 8 = .ok (.ireturn, 1) := by decide +kernel
theorem d_X1_compare_0 : decode b_X1_compare 0 = .ok (.aload_n 0, 1) := by decide +kernel
theorem d_X1_compare_1 : decode b_X1_compare 1 = .ok (.iload_n 1, 1) := by decide +kernel
theorem d_X1_compare_2 : decode b_X1_compare 2 = .ok (.invokevirtual 16, 3) := by decide +kernel
theorem d_X1_compare_5 : decode b_X1_compare 5 = .ok (.astore_n 3, 1) := by decide +kernel
theorem d_X1_compare_6 : decode b_X1_compare 6 = .ok (.aload_n 0, 1) := by decide +kernel
theorem d_X1_compare_7 : decode b_X1_compare 7 = .ok (.iload_n 2, 1) := by decide +kernel
theorem d_X1_compare_8 : decode b_X1_compare 8 = .ok (.invokevirtual 16, 3) := by decide +kernel
theorem d_X1_compare_11 : decode b_X1_compare 11 = .ok (.astore 4, 2) := by decide +kernel
theorem d_X1_compare_13 : decode b_X1_compare 13 = .ok (.aload_n 3, 1) := by decide +kernel
theorem d_X1_compare_14 : decode b_X1_compare 14 = .ok (.aload 4, 2) := by decide +kernel
theorem d_X1_compare_16 : decode b_X1_compare 16 = .ok (.invokevirtual 116, 3) := by decide +kernel
theorem d_X1_compare_19 : decode b_X1_compare 19 = .ok (.ireturn, 1) := by decide +kernel
