theorem d_L_widen_0 : decode b_L_widen 0 = .ok (.aload_n 3, 1) := by decide +kernel
theorem d_L_widen_1 : decode b_L_widen 1 = .ok (.iconst 0, 1) := by decide +kernel
theorem d_L_widen_2 : decode b_L_widen 2 = .ok (.aload_n 0, 1) := by decide +kernel
theorem d_L_widen_3 : decode b_L_widen 3 = .ok (.iload_n 1, 1) := by decide +kernel
theorem d_L_widen_4 : decode b_L_widen 4 = .ok (.iload_n 2, 1) := by decide +kernel
theorem d_L_widen_5 : decode b_L_widen 5 = .ok (.invokevirtual 7, 3) := by decide +kernel
theorem d_L_widen_8 : decode b_L_widen 8 = .ok (.ifCond .eq 7, 3) := by decide +kernel
theorem d_L_widen_11 : decode b_L_widen 11 = .ok (.lconst 1, 1) := by decide +kernel
theorem d_L_widen_12 : decode b_L_widen 12 = .ok (.goto 4, 3) := by decide +kernel
theorem d_L_widen_15 : decode b_L_widen 15 = .ok (.lconst 0, 1) := by decide +kernel
theorem d_L_widen_16 : decode b_L_widen 16 = .ok (.lastore, 1) := by decide +kernel
theorem d_L_widen_17 : decode b_L_widen 17 = .ok (.goto 11, 3) := by decide +kernel
theorem d_L_widen_20 : decode b_L_widen 20 = .ok (.astore 4, 2) := by decide +kernel
theorem d_L_widen_22 : decode b_L_widen 22 = .ok (.iconst 1, 1) := by decide +kernel
theorem d_L_widen_23 : decode b_L_widen 23 = .ok (.ireturn, 1) := by decide +kernel
theorem d_L_widen_24 : decode b_L_widen 24 = .ok (.astore 4, 2) := by decide +kernel
theorem d_L_widen_26 : decode b_L_widen 26 = .ok (.iconst 2, 1) := by decide +kernel
theorem d_L_widen_27 : decode b_L_widen 27 = .ok (.ireturn, 1) := by decide +kernel
theorem d_L_widen_28 : decode b_L_widen 28 = .ok (.iconst 0, 1) := by decide +kernel
theorem d_L_widen_29 : decode b_L_widen 29 = .ok (.ireturn, 1) := by decide +kernel
theorem d_L_width_0 : decode b_L_width 0 = .ok (.aload_n 2, 1) := by decide +kernel
theorem d_L_width_1 : decode b_L_width 1 = .ok (.iconst 0, 1) := by decide +kernel
theorem d_L_width_2 : decode b_L_width 2 = .ok (.aload_n 0, 1) := by decide +kernel
theorem d_L_width_3 : decode b_L_width 3 = .ok (.iload_n 1, 1) := by decide +kernel
theorem d_L_width_4 : decode b_L_width 4 = .ok (.invokevirtual 17, 3) := by decide +kernel
theorem d_L_width_7 : decode b_L_width 7 = .ok (.i2l, 1) := by decide +kernel
theorem d_L_width_8 : decode b_L_width 8 = .ok (.lastore, 1) := by decide +kernel
theorem d_L_width_9 : decode b_L_width 9 = .ok (.goto 6, 3) := by decide +kernel
theorem d_L_width_12 : decode b_L_width 12 = .ok (.astore_n 3, 1) := by decide +kernel
theorem d_L_width_13 : decode b_L_width 13 = .ok (.iconst 1, 1) := by decide +kernel
theorem d_L_width_14 : decode b_L_width 14 = .ok (.ireturn, 1) := by decide +kernel
theorem d_L_width_15 : decode b_L_width 15 = .ok (.iconst 0, 1) := by decide +kernel
theorem d_L_width_16 : decode b_L_width 16 = .ok (.ireturn, 1) := by decide +kernel
theorem d_L_set_0 : decode b_L_set 0 = .ok (.aload 4, 2) := by decide +kernel
theorem d_L_set_2 : decode b_L_set 2 = .ok (.iconst 0, 1) := by decide +kernel
theorem d_L_set_3 : decode b_L_set 3 = .ok (.aload_n 0, 1) := by decide +kernel
theorem d_L_set_4 : decode b_L_set 4 = .ok (.iload_n 1, 1) := by decide +kernel
theorem d_L_set_5 : decode b_L_set 5 = .ok (.lload_n 2, 1) := by decide +kernel
theorem d_L_set_6 : decode b_L_set 6 = .ok (.invokevirtual 21, 3) := by decide +kernel
theorem d_L_set_9 : decode b_L_set 9 = .ok (.ifCond .eq 7, 3) := by decide +kernel
theorem d_L_set_12 : decode b_L_set 12 = .ok (.lconst 1, 1) := by decide +kernel
theorem d_L_set_13 : decode b_L_set 13 = .ok (.goto 4, 3) := by decide +kernel
theorem d_L_set_16 : decode b_L_set 16 = .ok (.lconst 0, 1) := by decide +kernel
theorem d_L_set_17 : decode b_L_set 17 = .ok (.lastore, 1) := by decide +kernel
theorem d_L_set_18 : decode b_L_set 18 = .ok (.goto 7, 3) := by decide +kernel
theorem d_L_set_21 : decode b_L_set 21 = .ok (.astore 5, 2) := by decide +kernel
theorem d_L_set_23 : decode b_L_set 23 = .ok (.iconst 1, 1) := by decide +kernel
theorem d_L_set_24 : decode b_L_set 24 = .ok (.ireturn, 1) := by decide +kernel
theorem d_L_set_25 : decode b_L_set 25 = .ok (.iconst 0, 1) := by decide +kernel
theorem d_L_set_26 : decode b_L_set 26 = .ok (.ireturn, 1) := by decide +kernel
theorem d_L_put_0 : decode b_L_put 0 = .ok (.aload 4, 2) := by decide +kernel
theorem d_L_put_2 : decode b_L_put 2 = .ok (.iconst 0, 1) := by decide +kernel
theorem d_L_put_3 : decode b_L_put 3 = .ok (.aload_n 0, 1) := by decide +kernel
theorem d_L_put_4 : decode b_L_put 4 = .ok (.iload_n 1, 1) := by decide +kernel
theorem d_L_put_5 : decode b_L_put 5 = .ok (.iload_n 2, 1) := by decide +kernel
theorem d_L_put_6 : decode b_L_put 6 = .ok (.iload_n 3, 1) := by decide +kernel
theorem d_L_put_7 : decode b_L_put 7 = .ok (.invokevirtual 25, 3) := by decide +kernel
theorem d_L_put_10 : decode b_L_put 10 = .ok (.i2l, 1) := by decide +kernel
theorem d_L_put_11 : decode b_L_put 11 = .ok (.lastore, 1) := by decide +kernel
theorem d_L_put_12 : decode b_L_put 12 = .ok (.goto 7, 3) := by decide +kernel
theorem d_L_put_15 : decode b_L_put 15 = .ok (.astore 5, 2) := by decide +kernel
theorem d_L_put_17 : decode b_L_put 17 = .ok (.iconst 1, 1) := by decide +kernel
theorem d_L_put_18 : decode b_L_put 18 = .ok (.ireturn, 1) := by decide +kernel
theorem d_L_put_19 : decode b_L_put 19 = .ok (.iconst 0, 1) := by decide +kernel
theorem d_L_put_20 : decode b_L_put 20 = .ok (.ireturn, 1) := by decide +kernel
theorem d_L_limb_0 : decode b_L_limb 0 = .ok (.aload_n 3, 1) := by decide +kernel
theorem d_L_limb_1 : decode b_L_limb 1 = .ok (.iconst 0, 1) := by decide +kernel
theorem d_L_limb_2 : decode b_L_limb 2 = .ok (.aload_n 0, 1) := by decide +kernel
theorem d_L_limb_3 : decode b_L_limb 3 = .ok (.iload_n 1, 1) := by decide +kernel
theorem d_L_limb_4 : decode b_L_limb 4 = .ok (.iload_n 2, 1) := by decide +kernel
theorem d_L_limb_5 : decode b_L_limb 5 = .ok (.invokevirtual 29, 3) := by decide +kernel
theorem d_L_limb_8 : decode b_L_limb 8 = .ok (.i2l, 1) := by decide +kernel
theorem d_L_limb_9 : decode b_L_limb 9 = .ok (.lastore, 1) := by decide +kernel
theorem d_L_limb_10 : decode b_L_limb 10 = .ok (.goto 7, 3) := by decide +kernel
theorem d_L_limb_13 : decode b_L_limb 13 = .ok (.astore 4, 2) := by decide +kernel
theorem d_L_limb_15 : decode b_L_limb 15 = .ok (.iconst 1, 1) := by decide +kernel
theorem d_L_limb_16 : decode b_L_limb 16 = .ok (.ireturn, 1) := by decide +kernel
theorem d_L_limb_17 : decode b_L_limb 17 = .ok (.iconst 0, 1) := by decide +kernel
theorem d_L_limb_18 : decode b_L_limb 18 = .ok (.ireturn, 1) := by decide +kernel
theorem d_L_copy_0 : decode b_L_copy 0 = .ok (.aload_n 3, 1) := by decide +kernel
theorem d_L_copy_1 : decode b_L_copy 1 = .ok (.iconst 0, 1) := by decide +kernel
theorem d_L_copy_2 : decode b_L_copy 2 = .ok (.aload_n 0, 1) := by decide +kernel
theorem d_L_copy_3 : decode b_L_copy 3 = .ok (.iload_n 1, 1) := by decide +kernel
theorem d_L_copy_4 : decode b_L_copy 4 = .ok (.iload_n 2, 1) := by decide +kernel
theorem d_L_copy_5 : decode b_L_copy 5 = .ok (.invokevirtual 33, 3) := by decide +kernel
theorem d_L_copy_8 : decode b_L_copy 8 = .ok (.ifCond .eq 7, 3) := by decide +kernel
theorem d_L_copy_11 : decode b_L_copy 11 = .ok (.lconst 1, 1) := by decide +kernel
theorem d_L_copy_12 : decode b_L_copy 12 = .ok (.goto 4, 3) := by decide +kernel
theorem d_L_copy_15 : decode b_L_copy 15 = .ok (.lconst 0, 1) := by decide +kernel
theorem d_L_copy_16 : decode b_L_copy 16 = .ok (.lastore, 1) := by decide +kernel
theorem d_L_copy_17 : decode b_L_copy 17 = .ok (.goto 7, 3) := by decide +kernel
theorem d_L_copy_20 : decode b_L_copy 20 = .ok (.astore 4, 2) := by decide +kernel
theorem d_L_copy_22 : decode b_L_copy 22 = .ok (.iconst 1, 1) := by decide +kernel
theorem d_L_copy_23 : decode b_L_copy 23 = .ok (.ireturn, 1) := by decide +kernel
theorem d_L_copy_24 : decode b_L_copy 24 = .ok (.iconst 0, 1) := by decide +kernel
theorem d_L_copy_25 : decode b_L_copy 25 = .ok (.ireturn, 1) := by decide +kernel
theorem d_L_add_0 : decode b_L_add 0 = .ok (.aload_n 3, 1) := by decide +kernel
theorem d_L_add_1 : decode b_L_add 1 = .ok (.iconst 0, 1) := by decide +kernel
theorem d_L_add_2 : decode b_L_add 2 = .ok (.aload_n 0, 1) := by decide +kernel
theorem d_L_add_3 : decode b_L_add 3 = .ok (.iload_n 1, 1) := by decide +kernel
theorem d_L_add_4 : decode b_L_add 4 = .ok (.iload_n 2, 1) := by decide +kernel
theorem d_L_add_5 : decode b_L_add 5 = .ok (.invokevirtual 36, 3) := by decide +kernel
theorem d_L_add_8 : decode b_L_add 8 = .ok (.i2l, 1) := by decide +kernel
theorem d_L_add_9 : decode b_L_add 9 = .ok (.lastore, 1) := by decide +kernel
theorem d_L_add_10 : decode b_L_add 10 = .ok (.goto 7, 3) := by decide +kernel
theorem d_L_add_13 : decode b_L_add 13 = .ok (.astore 4, 2) := by decide +kernel
theorem d_L_add_15 : decode b_L_add 15 = .ok (.iconst 1, 1) := by decide +kernel
theorem d_L_add_16 : decode b_L_add 16 = .ok (.ireturn, 1) := by decide +kernel
theorem d_L_add_17 : decode b_L_add 17 = .ok (.iconst 0, 1) := by decide +kernel
theorem d_L_add_18 : decode b_L_add 18 = .ok (.ireturn, 1) := by decide +kernel
theorem d_L_subtract_0 : decode b_L_subtract 0 = .ok (.aload_n 3, 1) := by decide +kernel
theorem d_L_subtract_1 : decode b_L_subtract 1 = .ok (.iconst 0, 1) := by decide +kernel
theorem d_L_subtract_2 : decode b_L_subtract 2 = .ok (.aload_n 0, 1) := by decide +kernel
theorem d_L_subtract_3 : decode b_L_subtract 3 = .ok (.iload_n 1, 1) := by decide +kernel
theorem d_L_subtract_4 : decode b_L_subtract 4 = .ok (.iload_n 2, 1) := by decide +kernel
theorem d_L_subtract_5 : decode b_L_subtract 5 = .ok (.invokevirtual 39, 3) := by decide +kernel
theorem d_L_subtract_8 : decode b_L_subtract 8 = .ok (.i2l, 1) := by decide +kernel
theorem d_L_subtract_9 : decode b_L_subtract 9 = .ok (.lastore, 1) := by decide +kernel
theorem d_L_subtract_10 : decode b_L_subtract 10 = .ok (.goto 7, 3) := by decide +kernel
theorem d_L_subtract_13 : decode b_L_subtract 13 = .ok (.astore 4, 2) := by decide +kernel
theorem d_L_subtract_15 : decode b_L_subtract 15 = .ok (.iconst 1, 1) := by decide +kernel
theorem d_L_subtract_16 : decode b_L_subtract 16 = .ok (.ireturn, 1) := by decide +kernel
theorem d_L_subtract_17 : decode b_L_subtract 17 = .ok (.iconst 0, 1) := by decide +kernel
theorem d_L_subtract_18 : decode b_L_subtract 18 = .ok (.ireturn, 1) := by decide +kernel
theorem d_L_addProduct_0 : decode b_L_addProduct 0 = .ok (.aload 4, 2) := by decide +kernel
theorem d_L_addProduct_2 : decode b_L_addProduct 2 = .ok (.iconst 0, 1) := by decide +kernel
theorem d_L_addProduct_3 : decode b_L_addProduct 3 = .ok (.aload_n 0, 1) := by decide +kernel
theorem d_L_addProduct_4 : decode b_L_addProduct 4 = .ok (.iload_n 1, 1) := by decide +kernel
theorem d_L_addProduct_5 : decode b_L_addProduct 5 = .ok (.iload_n 2, 1) := by decide +kernel
theorem d_L_addProduct_6 : decode b_L_addProduct 6 = .ok (.iload_n 3, 1) := by decide +kernel
theorem d_L_addProduct_7 : decode b_L_addProduct 7 = .ok (.invokevirtual 42, 3) := by decide +kernel
theorem d_L_addProduct_10 : decode b_L_addProduct 10 = .ok (.i2l, 1) := by decide +kernel
theorem d_L_addProduct_11 : decode b_L_addProduct 11 = .ok (.lastore, 1) := by decide +kernel
theorem d_L_addProduct_12 : decode b_L_addProduct 12 = .ok (.goto 11, 3) := by decide +kernel
theorem d_L_addProduct_15 : decode b_L_addProduct 15 = .ok (.astore 5, 2) := by decide +kernel
theorem d_L_addProduct_17 : decode b_L_addProduct 17 = .ok (.iconst 1, 1) := by decide +kernel
theorem d_L_addProduct_18 : decode b_L_addProduct 18 = .ok (.ireturn, 1) := by decide +kernel
theorem d_L_addProduct_19 : decode b_L_addProduct 19 = .ok (.astore 5, 2) := by decide +kernel
theorem d_L_addProduct_21 : decode b_L_addProduct 21 = .ok (.iconst 2, 1) := by decide +kernel
theorem d_L_addProduct_22 : decode b_L_addProduct 22 = .ok (.ireturn, 1) := by decide +kernel
theorem d_L_addProduct_23 : decode b_L_addProduct 23 = .ok (.iconst 0, 1) := by decide +kernel
theorem d_L_addProduct_24 : decode b_L_addProduct 24 = .ok (.ireturn, 1) := by decide +kernel
theorem d_L_subtractProduct_0 : decode b_L_subtractProduct 0 = .ok (.aload 4, 2) := by decide +kernel
theorem d_L_subtractProduct_2 : decode b_L_subtractProduct 2 = .ok (.iconst 0, 1) := by decide +kernel
theorem d_L_subtractProduct_3 : decode b_L_subtractProduct 3 = .ok (.aload_n 0, 1) := by decide +kernel
theorem d_L_subtractProduct_4 : decode b_L_subtractProduct 4 = .ok (.iload_n 1, 1) := by decide +kernel
theorem d_L_subtractProduct_5 : decode b_L_subtractProduct 5 = .ok (.iload_n 2, 1) := by decide +kernel
theorem d_L_subtractProduct_6 : decode b_L_subtractProduct 6 = .ok (.iload_n 3, 1) := by decide +kernel
theorem d_L_subtractProduct_7 : decode b_L_subtractProduct 7 = .ok (.invokevirtual 45, 3) := by decide +kernel
theorem d_L_subtractProduct_10 : decode b_L_subtractProduct 10 = .ok (.i2l, 1) := by decide +kernel
theorem d_L_subtractProduct_11 : decode b_L_subtractProduct 11 = .ok (.lastore, 1) := by decide +kernel
theorem d_L_subtractProduct_12 : decode b_L_subtractProduct 12 = .ok (.goto 11, 3) := by decide +kernel
theorem d_L_subtractProduct_15 : decode b_L_subtractProduct 15 = .ok (.astore 5, 2) := by decide +kernel
theorem d_L_subtractProduct_17 : decode b_L_subtractProduct 17 = .ok (.iconst 1, 1) := by decide +kernel
theorem d_L_subtractProduct_18 : decode b_L_subtractProduct 18 = .ok (.ireturn, 1) := by decide +kernel
theorem d_L_subtractProduct_19 : decode b_L_subtractProduct 19 = .ok (.astore 5, 2) := by decide +kernel
theorem d_L_subtractProduct_21 : decode b_L_subtractProduct 21 = .ok (.iconst 2, 1) := by decide +kernel
theorem d_L_subtractProduct_22 : decode b_L_subtractProduct 22 = .ok (.ireturn, 1) := by decide +kernel
theorem d_L_subtractProduct_23 : decode b_L_subtractProduct 23 = .ok (.iconst 0, 1) := by decide +kernel
theorem d_L_subtractProduct_24 : decode b_L_subtractProduct 24 = .ok (.ireturn, 1) := by decide +kernel
theorem d_L_times_0 : decode b_L_times 0 = .ok (.aload 4, 2) := by decide +kernel
theorem d_L_times_2 : decode b_L_times 2 = .ok (.iconst 0, 1) := by decide +kernel
theorem d_L_times_3 : decode b_L_times 3 = .ok (.aload_n 0, 1) := by decide +kernel
theorem d_L_times_4 : decode b_L_times 4 = .ok (.iload_n 1, 1) := by decide +kernel
theorem d_L_times_5 : decode b_L_times 5 = .ok (.lload_n 2, 1) := by decide +kernel
theorem d_L_times_6 : decode b_L_times 6 = .ok (.invokevirtual 48, 3) := by decide +kernel
theorem d_L_times_9 : decode b_L_times 9 = .ok (.i2l, 1) := by decide +kernel
theorem d_L_times_10 : decode b_L_times 10 = .ok (.lastore, 1) := by decide +kernel
theorem d_L_times_11 : decode b_L_times 11 = .ok (.goto 7, 3) := by decide +kernel
theorem d_L_times_14 : decode b_L_times 14 = .ok (.astore 5, 2) := by decide +kernel
theorem d_L_times_16 : decode b_L_times 16 = .ok (.iconst 1, 1) := by decide +kernel
theorem d_L_times_17 : decode b_L_times 17 = .ok (.ireturn, 1) := by decide +kernel
theorem d_L_times_18 : decode b_L_times 18 = .ok (.iconst 0, 1) := by decide +kernel
theorem d_L_times_19 : decode b_L_times 19 = .ok (.ireturn, 1) := by decide +kernel
theorem d_L_negate_0 : decode b_L_negate 0 = .ok (.aload_n 2, 1) := by decide +kernel
theorem d_L_negate_1 : decode b_L_negate 1 = .ok (.iconst 0, 1) := by decide +kernel
theorem d_L_negate_2 : decode b_L_negate 2 = .ok (.aload_n 0, 1) := by decide +kernel
theorem d_L_negate_3 : decode b_L_negate 3 = .ok (.iload_n 1, 1) := by decide +kernel
theorem d_L_negate_4 : decode b_L_negate 4 = .ok (.invokevirtual 52, 3) := by decide +kernel
theorem d_L_negate_7 : decode b_L_negate 7 = .ok (.ifCond .eq 7, 3) := by decide +kernel
theorem d_L_negate_10 : decode b_L_negate 10 = .ok (.lconst 1, 1) := by decide +kernel
theorem d_L_negate_11 : decode b_L_negate 11 = .ok (.goto 4, 3) := by decide +kernel
theorem d_L_negate_14 : decode b_L_negate 14 = .ok (.lconst 0, 1) := by decide +kernel
theorem d_L_negate_15 : decode b_L_negate 15 = .ok (.lastore, 1) := by decide +kernel
theorem d_L_negate_16 : decode b_L_negate 16 = .ok (.goto 6, 3) := by decide +kernel
theorem d_L_negate_19 : decode b_L_negate 19 = .ok (.astore_n 3, 1) := by decide +kernel
theorem d_L_negate_20 : decode b_L_negate 20 = .ok (.iconst 1, 1) := by decide +kernel
theorem d_L_negate_21 : decode b_L_negate 21 = .ok (.ireturn, 1) := by decide +kernel
theorem d_L_negate_22 : decode b_L_negate 22 = .ok (.iconst 0, 1) := by decide +kernel
theorem d_L_negate_23 : decode b_L_negate 23 = .ok (.ireturn, 1) := by decide +kernel
theorem d_L_left_0 : decode b_L_left 0 = .ok (.aload_n 3, 1) := by decide +kernel
theorem d_L_left_1 : decode b_L_left 1 = .ok (.iconst 0, 1) := by decide +kernel
theorem d_L_left_2 : decode b_L_left 2 = .ok (.aload_n 0, 1) := by decide +kernel
theorem d_L_left_3 : decode b_L_left 3 = .ok (.iload_n 1, 1) := by decide +kernel
theorem d_L_left_4 : decode b_L_left 4 = .ok (.iload_n 2, 1) := by decide +kernel
theorem d_L_left_5 : decode b_L_left 5 = .ok (.invokevirtual 56, 3) := by decide +kernel
theorem d_L_left_8 : decode b_L_left 8 = .ok (.i2l, 1) := by decide +kernel
theorem d_L_left_9 : decode b_L_left 9 = .ok (.lastore, 1) := by decide +kernel
theorem d_L_left_10 : decode b_L_left 10 = .ok (.goto 11, 3) := by decide +kernel
theorem d_L_left_13 : decode b_L_left 13 = .ok (.astore 4, 2) := by decide +kernel
theorem d_L_left_15 : decode b_L_left 15 = .ok (.iconst 1, 1) := by decide +kernel
theorem d_L_left_16 : decode b_L_left 16 = .ok (.ireturn, 1) := by decide +kernel
theorem d_L_left_17 : decode b_L_left 17 = .ok (.astore 4, 2) := by decide +kernel
theorem d_L_left_19 : decode b_L_left 19 = .ok (.iconst 2, 1) := by decide +kernel
theorem d_L_left_20 : decode b_L_left 20 = .ok (.ireturn, 1) := by decide +kernel
theorem d_L_left_21 : decode b_L_left 21 = .ok (.iconst 0, 1) := by decide +kernel
theorem d_L_left_22 : decode b_L_left 22 = .ok (.ireturn, 1) := by decide +kernel
theorem d_L_right_0 : decode b_L_right 0 = .ok (.aload_n 3, 1) := by decide +kernel
theorem d_L_right_1 : decode b_L_right 1 = .ok (.iconst 0, 1) := by decide +kernel
theorem d_L_right_2 : decode b_L_right 2 = .ok (.aload_n 0, 1) := by decide +kernel
theorem d_L_right_3 : decode b_L_right 3 = .ok (.iload_n 1, 1) := by decide +kernel
theorem d_L_right_4 : decode b_L_right 4 = .ok (.iload_n 2, 1) := by decide +kernel
theorem d_L_right_5 : decode b_L_right 5 = .ok (.invokevirtual 59, 3) := by decide +kernel
theorem d_L_right_8 : decode b_L_right 8 = .ok (.i2l, 1) := by decide +kernel
theorem d_L_right_9 : decode b_L_right 9 = .ok (.lastore, 1) := by decide +kernel
theorem d_L_right_10 : decode b_L_right 10 = .ok (.goto 11, 3) := by decide +kernel
theorem d_L_right_13 : decode b_L_right 13 = .ok (.astore 4, 2) := by decide +kernel
theorem d_L_right_15 : decode b_L_right 15 = .ok (.iconst 1, 1) := by decide +kernel
theorem d_L_right_16 : decode b_L_right 16 = .ok (.ireturn, 1) := by decide +kernel
theorem d_L_right_17 : decode b_L_right 17 = .ok (.astore 4, 2) := by decide +kernel
theorem d_L_right_19 : decode b_L_right 19 = .ok (.iconst 2, 1) := by decide +kernel
theorem d_L_right_20 : decode b_L_right 20 = .ok (.ireturn, 1) := by decide +kernel
theorem d_L_right_21 : decode b_L_right 21 = .ok (.iconst 0, 1) := by decide +kernel
theorem d_L_right_22 : decode b_L_right 22 = .ok (.ireturn, 1) := by decide +kernel
theorem d_L_nearest_0 : decode b_L_nearest 0 = .ok (.aload_n 3, 1) := by decide +kernel
theorem d_L_nearest_1 : decode b_L_nearest 1 = .ok (.iconst 0, 1) := by decide +kernel
theorem d_L_nearest_2 : decode b_L_nearest 2 = .ok (.aload_n 0, 1) := by decide +kernel
theorem d_L_nearest_3 : decode b_L_nearest 3 = .ok (.iload_n 1, 1) := by decide +kernel
theorem d_L_nearest_4 : decode b_L_nearest 4 = .ok (.iload_n 2, 1) := by decide +kernel
theorem d_L_nearest_5 : decode b_L_nearest 5 = .ok (.invokevirtual 62, 3) := by decide +kernel
theorem d_L_nearest_8 : decode b_L_nearest 8 = .ok (.i2l, 1) := by decide +kernel
theorem d_L_nearest_9 : decode b_L_nearest 9 = .ok (.lastore, 1) := by decide +kernel
theorem d_L_nearest_10 : decode b_L_nearest 10 = .ok (.goto 11, 3) := by decide +kernel
theorem d_L_nearest_13 : decode b_L_nearest 13 = .ok (.astore 4, 2) := by decide +kernel
theorem d_L_nearest_15 : decode b_L_nearest 15 = .ok (.iconst 1, 1) := by decide +kernel
theorem d_L_nearest_16 : decode b_L_nearest 16 = .ok (.ireturn, 1) := by decide +kernel
theorem d_L_nearest_17 : decode b_L_nearest 17 = .ok (.astore 4, 2) := by decide +kernel
theorem d_L_nearest_19 : decode b_L_nearest 19 = .ok (.iconst 2, 1) := by decide +kernel
theorem d_L_nearest_20 : decode b_L_nearest 20 = .ok (.ireturn, 1) := by decide +kernel
theorem d_L_nearest_21 : decode b_L_nearest 21 = .ok (.iconst 0, 1) := by decide +kernel
theorem d_L_nearest_22 : decode b_L_nearest 22 = .ok (.ireturn, 1) := by decide +kernel
theorem d_L_divide_0 : decode b_L_divide 0 = .ok (.aload 4, 2) := by decide +kernel
theorem d_L_divide_2 : decode b_L_divide 2 = .ok (.iconst 0, 1) := by decide +kernel
theorem d_L_divide_3 : decode b_L_divide 3 = .ok (.aload_n 0, 1) := by decide +kernel
theorem d_L_divide_4 : decode b_L_divide 4 = .ok (.iload_n 1, 1) := by decide +kernel
theorem d_L_divide_5 : decode b_L_divide 5 = .ok (.lload_n 2, 1) := by decide +kernel
theorem d_L_divide_6 : decode b_L_divide 6 = .ok (.invokevirtual 65, 3) := by decide +kernel
theorem d_L_divide_9 : decode b_L_divide 9 = .ok (.lastore, 1) := by decide +kernel
theorem d_L_divide_10 : decode b_L_divide 10 = .ok (.goto 11, 3) := by decide +kernel
theorem d_L_divide_13 : decode b_L_divide 13 = .ok (.astore 5, 2) := by decide +kernel
theorem d_L_divide_15 : decode b_L_divide 15 = .ok (.iconst 1, 1) := by decide +kernel
theorem d_L_divide_16 : decode b_L_divide 16 = .ok (.ireturn, 1) := by decide +kernel
theorem d_L_divide_17 : decode b_L_divide 17 = .ok (.astore 5, 2) := by decide +kernel
theorem d_L_divide_19 : decode b_L_divide 19 = .ok (.iconst 2, 1) := by decide +kernel
theorem d_L_divide_20 : decode b_L_divide 20 = .ok (.ireturn, 1) := by decide +kernel
theorem d_L_divide_21 : decode b_L_divide 21 = .ok (.iconst 0, 1) := by decide +kernel
theorem d_L_divide_22 : decode b_L_divide 22 = .ok (.ireturn, 1) := by decide +kernel
theorem d_L_zeros_0 : decode b_L_zeros 0 = .ok (.aload_n 2, 1) := by decide +kernel
theorem d_L_zeros_1 : decode b_L_zeros 1 = .ok (.iconst 0, 1) := by decide +kernel
theorem d_L_zeros_2 : decode b_L_zeros 2 = .ok (.aload_n 0, 1) := by decide +kernel
theorem d_L_zeros_3 : decode b_L_zeros 3 = .ok (.iload_n 1, 1) := by decide +kernel
theorem d_L_zeros_4 : decode b_L_zeros 4 = .ok (.invokevirtual 69, 3) := by decide +kernel
theorem d_L_zeros_7 : decode b_L_zeros 7 = .ok (.i2l, 1) := by decide +kernel
theorem d_L_zeros_8 : decode b_L_zeros 8 = .ok (.lastore, 1) := by decide +kernel
theorem d_L_zeros_9 : decode b_L_zeros 9 = .ok (.goto 6, 3) := by decide +kernel
theorem d_L_zeros_12 : decode b_L_zeros 12 = .ok (.astore_n 3, 1) := by decide +kernel
theorem d_L_zeros_13 : decode b_L_zeros 13 = .ok (.iconst 1, 1) := by decide +kernel
theorem d_L_zeros_14 : decode b_L_zeros 14 = .ok (.ireturn, 1) := by decide +kernel
theorem d_L_zeros_15 : decode b_L_zeros 15 = .ok (.iconst 0, 1) := by decide +kernel
theorem d_L_zeros_16 : decode b_L_zeros 16 = .ok (.ireturn, 1) := by decide +kernel
theorem d_L_length_0 : decode b_L_length 0 = .ok (.aload_n 2, 1) := by decide +kernel
theorem d_L_length_1 : decode b_L_length 1 = .ok (.iconst 0, 1) := by decide +kernel
theorem d_L_length_2 : decode b_L_length 2 = .ok (.aload_n 0, 1) := by decide +kernel
theorem d_L_length_3 : decode b_L_length 3 = .ok (.iload_n 1, 1) := by decide +kernel
theorem d_L_length_4 : decode b_L_length 4 = .ok (.invokevirtual 72, 3) := by decide +kernel
theorem d_L_length_7 : decode b_L_length 7 = .ok (.i2l, 1) := by decide +kernel
theorem d_L_length_8 : decode b_L_length 8 = .ok (.lastore, 1) := by decide +kernel
theorem d_L_length_9 : decode b_L_length 9 = .ok (.goto 6, 3) := by decide +kernel
theorem d_L_length_12 : decode b_L_length 12 = .ok (.astore_n 3, 1) := by decide +kernel
theorem d_L_length_13 : decode b_L_length 13 = .ok (.iconst 1, 1) := by decide +kernel
theorem d_L_length_14 : decode b_L_length 14 = .ok (.ireturn, 1) := by decide +kernel
theorem d_L_length_15 : decode b_L_length 15 = .ok (.iconst 0, 1) := by decide +kernel
theorem d_L_length_16 : decode b_L_length 16 = .ok (.ireturn, 1) := by decide +kernel
theorem d_L_sign_0 : decode b_L_sign 0 = .ok (.aload_n 2, 1) := by decide +kernel
theorem d_L_sign_1 : decode b_L_sign 1 = .ok (.iconst 0, 1) := by decide +kernel
theorem d_L_sign_2 : decode b_L_sign 2 = .ok (.aload_n 0, 1) := by decide +kernel
theorem d_L_sign_3 : decode b_L_sign 3 = .ok (.iload_n 1, 1) := by decide +kernel
theorem d_L_sign_4 : decode b_L_sign 4 = .ok (.invokevirtual 75, 3) := by decide +kernel
theorem d_L_sign_7 : decode b_L_sign 7 = .ok (.i2l, 1) := by decide +kernel
theorem d_L_sign_8 : decode b_L_sign 8 = .ok (.lastore, 1) := by decide +kernel
theorem d_L_sign_9 : decode b_L_sign 9 = .ok (.goto 6, 3) := by decide +kernel
theorem d_L_sign_12 : decode b_L_sign 12 = .ok (.astore_n 3, 1) := by decide +kernel
theorem d_L_sign_13 : decode b_L_sign 13 = .ok (.iconst 1, 1) := by decide +kernel
theorem d_L_sign_14 : decode b_L_sign 14 = .ok (.ireturn, 1) := by decide +kernel
theorem d_L_sign_15 : decode b_L_sign 15 = .ok (.iconst 0, 1) := by decide +kernel
theorem d_L_sign_16 : decode b_L_sign 16 = .ok (.ireturn, 1) := by decide +kernel
theorem d_L_compare_0 : decode b_L_compare 0 = .ok (.aload_n 3, 1) := by decide +kernel
theorem d_L_compare_1 : decode b_L_compare 1 = .ok (.iconst 0, 1) := by decide +kernel
theorem d_L_compare_2 : decode b_L_compare 2 = .ok (.aload_n 0, 1) := by decide +kernel
theorem d_L_compare_3 : decode b_L_compare 3 = .ok (.iload_n 1, 1) := by decide +kernel
theorem d_L_compare_4 : decode b_L_compare 4 = .ok (.iload_n 2, 1) := by decide +kernel
theorem d_L_compare_5 : decode b_L_compare 5 = .ok (.invokevirtual 78, 3) := by decide +kernel
theorem d_L_compare_8 : decode b_L_compare 8 = .ok (.i2l, 1) := by decide +kernel
theorem d_L_compare_9 : decode b_L_compare 9 = .ok (.lastore, 1) := by decide +kernel
theorem d_L_compare_10 : decode b_L_compare 10 = .ok (.goto 7, 3) := by decide +kernel
theorem d_L_compare_13 : decode b_L_compare 13 = .ok (.astore 4, 2) := by decide +kernel
theorem d_L_compare_15 : decode b_L_compare 15 = .ok (.iconst 1, 1) := by decide +kernel
theorem d_L_compare_16 : decode b_L_compare 16 = .ok (.ireturn, 1) := by decide +kernel
theorem d_L_compare_17 : decode b_L_compare 17 = .ok (.iconst 0, 1) := by decide +kernel
theorem d_L_compare_18 : decode b_L_compare 18 = .ok (.ireturn, 1) := by decide +kernel
theorem d_L_law_0 : decode code 0 = .ok (.new 8, 3) := by decide +kernel
theorem d_L_law_3 : decode code 3 = .ok (.dup, 1) := by decide +kernel
theorem d_L_law_4 : decode code 4 = .ok (.invokespecial 81, 3) := by decide +kernel
theorem d_L_law_7 : decode code 7 = .ok (.astore_n 1, 1) := by decide +kernel
theorem d_L_law_8 : decode code 8 = .ok (.new 82, 3) := by decide +kernel
theorem d_L_law_11 : decode code 11 = .ok (.dup, 1) := by decide +kernel
theorem d_L_law_12 : decode code 12 = .ok (.invokespecial 84, 3) := by decide +kernel
theorem d_L_law_15 : decode code 15 = .ok (.astore_n 2, 1) := by decide +kernel
theorem d_L_law_16 : decode code 16 = .ok (.iconst 1, 1) := by decide +kernel
theorem d_L_law_17 : decode code 17 = .ok (.newarray .long, 2) := by decide +kernel
theorem d_L_law_19 : decode code 19 = .ok (.astore_n 3, 1) := by decide +kernel
theorem d_L_law_20 : decode code 20 = .ok (.iconst 0, 1) := by decide +kernel
theorem d_L_law_21 : decode code 21 = .ok (.istore 4, 2) := by decide +kernel
theorem d_L_law_23 : decode code 23 = .ok (.iload 4, 2) := by decide +kernel
theorem d_L_law_25 : decode code 25 = .ok (.aload_n 0, 1) := by decide +kernel
theorem d_L_law_26 : decode code 26 = .ok (.arraylength, 1) := by decide +kernel
theorem d_L_law_27 : decode code 27 = .ok (.iconst 4, 1) := by decide +kernel
theorem d_L_law_28 : decode code 28 = .ok (.isub, 1) := by decide +kernel
theorem d_L_law_29 : decode code 29 = .ok (.if_icmp .gt 1568, 3) := by decide +kernel
theorem d_L_law_32 : decode code 32 = .ok (.aload_n 0, 1) := by decide +kernel
theorem d_L_law_33 : decode code 33 = .ok (.iload 4, 2) := by decide +kernel
theorem d_L_law_35 : decode code 35 = .ok (.iaload, 1) := by decide +kernel
theorem d_L_law_36 : decode code 36 = .ok (.bipush 31, 2) := by decide +kernel
theorem d_L_law_38 : decode code 38 = .ok (.iand, 1) := by decide +kernel
theorem d_L_law_132 : decode code 132 = .ok (.aload_n 1, 1) := by decide +kernel
theorem d_L_law_133 : decode code 133 = .ok (.aload_n 0, 1) := by decide +kernel
theorem d_L_law_134 : decode code 134 = .ok (.iload 4, 2) := by decide +kernel
theorem d_L_law_136 : decode code 136 = .ok (.iconst 1, 1) := by decide +kernel
theorem d_L_law_137 : decode code 137 = .ok (.iadd, 1) := by decide +kernel
theorem d_L_law_138 : decode code 138 = .ok (.iaload, 1) := by decide +kernel
theorem d_L_law_139 : decode code 139 = .ok (.aload_n 0, 1) := by decide +kernel
theorem d_L_law_140 : decode code 140 = .ok (.iload 4, 2) := by decide +kernel
theorem d_L_law_142 : decode code 142 = .ok (.iconst 2, 1) := by decide +kernel
theorem d_L_law_143 : decode code 143 = .ok (.iadd, 1) := by decide +kernel
theorem d_L_law_144 : decode code 144 = .ok (.iaload, 1) := by decide +kernel
theorem d_L_law_145 : decode code 145 = .ok (.aload_n 3, 1) := by decide +kernel
theorem d_L_law_146 : decode code 146 = .ok (.invokestatic 85, 3) := by decide +kernel
theorem d_L_law_149 : decode code 149 = .ok (.istore 5, 2) := by decide +kernel
theorem d_L_law_151 : decode code 151 = .ok (.aload_n 2, 1) := by decide +kernel
theorem d_L_law_152 : decode code 152 = .ok (.aload_n 0, 1) := by decide +kernel
theorem d_L_law_153 : decode code 153 = .ok (.iload 4, 2) := by decide +kernel
theorem d_L_law_155 : decode code 155 = .ok (.iconst 1, 1) := by decide +kernel
theorem d_L_law_156 : decode code 156 = .ok (.iadd, 1) := by decide +kernel
theorem d_L_law_157 : decode code 157 = .ok (.iaload, 1) := by decide +kernel
theorem d_L_law_158 : decode code 158 = .ok (.aload_n 0, 1) := by decide +kernel
theorem d_L_law_159 : decode code 159 = .ok (.iload 4, 2) := by decide +kernel
theorem d_L_law_161 : decode code 161 = .ok (.iconst 2, 1) := by decide +kernel
theorem d_L_law_162 : decode code 162 = .ok (.iadd, 1) := by decide +kernel
theorem d_L_law_163 : decode code 163 = .ok (.iaload, 1) := by decide +kernel
theorem d_L_law_164 : decode code 164 = .ok (.invokevirtual 90, 3) := by decide +kernel
theorem d_L_law_167 : decode code 167 = .ok (.istore 6, 2) := by decide +kernel
theorem d_L_law_169 : decode code 169 = .ok (.aload_n 2, 1) := by decide +kernel
theorem d_L_law_170 : decode code 170 = .ok (.invokevirtual 91, 3) := by decide +kernel
theorem d_L_law_173 : decode code 173 = .ok (.iload 5, 2) := by decide +kernel
theorem d_L_law_175 : decode code 175 = .ok (.if_icmp .eq 5, 3) := by decide +kernel
theorem d_L_law_178 : decode code 178 = .ok (.iconst 0, 1) := by decide +kernel
theorem d_L_law_179 : decode code 179 = .ok (.ireturn, 1) := by decide +kernel
theorem d_L_law_180 : decode code 180 = .ok (.iload 5, 2) := by decide +kernel
theorem d_L_law_182 : decode code 182 = .ok (.ifCond .ne 22, 3) := by decide +kernel
theorem d_L_law_185 : decode code 185 = .ok (.aload_n 3, 1) := by decide +kernel
theorem d_L_law_186 : decode code 186 = .ok (.iconst 0, 1) := by decide +kernel
theorem d_L_law_187 : decode code 187 = .ok (.laload, 1) := by decide +kernel
theorem d_L_law_188 : decode code 188 = .ok (.iload 6, 2) := by decide +kernel
theorem d_L_law_190 : decode code 190 = .ok (.ifCond .eq 7, 3) := by decide +kernel
theorem d_L_law_193 : decode code 193 = .ok (.lconst 1, 1) := by decide +kernel
theorem d_L_law_194 : decode code 194 = .ok (.goto 4, 3) := by decide +kernel
theorem d_L_law_197 : decode code 197 = .ok (.lconst 0, 1) := by decide +kernel
theorem d_L_law_198 : decode code 198 = .ok (.lcmp, 1) := by decide +kernel
theorem d_L_law_199 : decode code 199 = .ok (.ifCond .eq 5, 3) := by decide +kernel
theorem d_L_law_202 : decode code 202 = .ok (.iconst 0, 1) := by decide +kernel
theorem d_L_law_203 : decode code 203 = .ok (.ireturn, 1) := by decide +kernel
theorem d_L_law_204 : decode code 204 = .ok (.goto 1387, 3) := by decide +kernel
theorem d_L_law_207 : decode code 207 = .ok (.aload_n 1, 1) := by decide +kernel
theorem d_L_law_208 : decode code 208 = .ok (.aload_n 0, 1) := by decide +kernel
theorem d_L_law_209 : decode code 209 = .ok (.iload 4, 2) := by decide +kernel
theorem d_L_law_211 : decode code 211 = .ok (.iconst 1, 1) := by decide +kernel
theorem d_L_law_212 : decode code 212 = .ok (.iadd, 1) := by decide +kernel
theorem d_L_law_213 : decode code 213 = .ok (.iaload, 1) := by decide +kernel
theorem d_L_law_214 : decode code 214 = .ok (.aload_n 3, 1) := by decide +kernel
theorem d_L_law_215 : decode code 215 = .ok (.invokestatic 95, 3) := by decide +kernel
theorem d_L_law_218 : decode code 218 = .ok (.istore 5, 2) := by decide +kernel
theorem d_L_law_220 : decode code 220 = .ok (.aload_n 2, 1) := by decide +kernel
theorem d_L_law_221 : decode code 221 = .ok (.aload_n 0, 1) := by decide +kernel
theorem d_L_law_222 : decode code 222 = .ok (.iload 4, 2) := by decide +kernel
theorem d_L_law_224 : decode code 224 = .ok (.iconst 1, 1) := by decide +kernel
theorem d_L_law_225 : decode code 225 = .ok (.iadd, 1) := by decide +kernel
theorem d_L_law_226 : decode code 226 = .ok (.iaload, 1) := by decide +kernel
theorem d_L_law_227 : decode code 227 = .ok (.invokevirtual 98, 3) := by decide +kernel
theorem d_L_law_230 : decode code 230 = .ok (.istore 6, 2) := by decide +kernel
theorem d_L_law_232 : decode code 232 = .ok (.aload_n 2, 1) := by decide +kernel
theorem d_L_law_233 : decode code 233 = .ok (.invokevirtual 91, 3) := by decide +kernel
theorem d_L_law_236 : decode code 236 = .ok (.iload 5, 2) := by decide +kernel
theorem d_L_law_238 : decode code 238 = .ok (.if_icmp .eq 5, 3) := by decide +kernel
theorem d_L_law_241 : decode code 241 = .ok (.iconst 0, 1) := by decide +kernel
theorem d_L_law_242 : decode code 242 = .ok (.ireturn, 1) := by decide +kernel
theorem d_L_law_243 : decode code 243 = .ok (.iload 5, 2) := by decide +kernel
theorem d_L_law_245 : decode code 245 = .ok (.ifCond .ne 15, 3) := by decide +kernel
theorem d_L_law_248 : decode code 248 = .ok (.aload_n 3, 1) := by decide +kernel
theorem d_L_law_249 : decode code 249 = .ok (.iconst 0, 1) := by decide +kernel
theorem d_L_law_250 : decode code 250 = .ok (.laload, 1) := by decide +kernel
theorem d_L_law_251 : decode code 251 = .ok (.iload 6, 2) := by decide +kernel
theorem d_L_law_253 : decode code 253 = .ok (.i2l, 1) := by decide +kernel
theorem d_L_law_254 : decode code 254 = .ok (.lcmp, 1) := by decide +kernel
theorem d_L_law_255 : decode code 255 = .ok (.ifCond .eq 5, 3) := by decide +kernel
theorem d_L_law_258 : decode code 258 = .ok (.iconst 0, 1) := by decide +kernel
theorem d_L_law_259 : decode code 259 = .ok (.ireturn, 1) := by decide +kernel
theorem d_L_law_260 : decode code 260 = .ok (.goto 1331, 3) := by decide +kernel
theorem d_L_law_263 : decode code 263 = .ok (.aload_n 1, 1) := by decide +kernel
theorem d_L_law_264 : decode code 264 = .ok (.aload_n 0, 1) := by decide +kernel
theorem d_L_law_265 : decode code 265 = .ok (.iload 4, 2) := by decide +kernel
