theorem d_X0_multiplyBy_64 : decode b_X0_multiplyBy 64 = .ok (.lload 5, 2) := by decide +kernel
theorem d_X0_multiplyBy_66 : decode b_X0_multiplyBy 66 = .ok (.lmul, 1) := by decide +kernel
theorem d_X0_multiplyBy_67 : decode b_X0_multiplyBy 67 = .ok (.lload 7, 2) := by decide +kernel
theorem d_X0_multiplyBy_69 : decode b_X0_multiplyBy 69 = .ok (.bipush 32, 2) := by decide +kernel
theorem d_X0_multiplyBy_71 : decode b_X0_multiplyBy 71 = .ok (.lshr, 1) := by decide +kernel
theorem d_X0_multiplyBy_72 : decode b_X0_multiplyBy 72 = .ok (.ladd, 1) := by decide +kernel
theorem d_X0_multiplyBy_73 : decode b_X0_multiplyBy 73 = .ok (.lload 12, 2) := by decide +kernel
theorem d_X0_multiplyBy_75 : decode b_X0_multiplyBy 75 = .ok (.bipush 32, 2) := by decide +kernel
theorem d_X0_multiplyBy_77 : decode b_X0_multiplyBy 77 = .ok (.lushr, 1) := by decide +kernel
theorem d_X0_multiplyBy_78 : decode b_X0_multiplyBy 78 = .ok (.ladd, 1) := by decide +kernel
theorem d_X0_multiplyBy_79 : decode b_X0_multiplyBy 79 = .ok (.lstore 7, 2) := by decide +kernel
theorem d_X0_multiplyBy_81 : decode b_X0_multiplyBy 81 = .ok (.iinc 9 1, 3) := by decide +kernel
theorem d_X0_multiplyBy_84 : decode b_X0_multiplyBy 84 = .ok (.goto (-66), 3) := by decide +kernel
theorem d_X0_multiplyBy_87 : decode b_X0_multiplyBy 87 = .ok (.return_, 1) := by decide +kernel
theorem d_X0_turnRound_0 : decode b_X0_turnRound 0 = .ok (.aload_n 0, 1) := by decide +kernel
theorem d_X0_turnRound_1 : decode b_X0_turnRound 1 = .ok (.invokevirtual 57, 3) := by decide +kernel
theorem d_X0_turnRound_4 : decode b_X0_turnRound 4 = .ok (.istore_n 1, 1) := by decide +kernel
theorem d_X0_turnRound_5 : decode b_X0_turnRound 5 = .ok (.aload_n 0, 1) := by decide +kernel
theorem d_X0_turnRound_6 : decode b_X0_turnRound 6 = .ok (.invokevirtual 65, 3) := by decide +kernel
theorem d_X0_turnRound_9 : decode b_X0_turnRound 9 = .ok (.aload_n 0, 1) := by decide +kernel
theorem d_X0_turnRound_10 : decode b_X0_turnRound 10 = .ok (.invokevirtual 72, 3) := by decide +kernel
theorem d_X0_turnRound_13 : decode b_X0_turnRound 13 = .ok (.iload_n 1, 1) := by decide +kernel
theorem d_X0_turnRound_14 : decode b_X0_turnRound 14 = .ok (.ifCond .eq 10, 3) := by decide +kernel
theorem d_X0_turnRound_17 : decode b_X0_turnRound 17 = .ok (.aload_n 0, 1) := by decide +kernel
theorem d_X0_turnRound_18 : decode b_X0_turnRound 18 = .ok (.invokevirtual 57, 3) := by decide +kernel
theorem d_X0_turnRound_21 : decode b_X0_turnRound 21 = .ok (.ifCond .ne 7, 3) := by decide +kernel
theorem d_X0_turnRound_24 : decode b_X0_turnRound 24 = .ok (.iconst 1, 1) := by decide +kernel
theorem d_X0_turnRound_25 : decode b_X0_turnRound 25 = .ok (.goto 4, 3) := by decide +kernel
theorem d_X0_turnRound_28 : decode b_X0_turnRound 28 = .ok (.iconst 0, 1) := by decide +kernel
theorem d_X0_turnRound_29 : decode b_X0_turnRound 29 = .ok (.ireturn, 1) := by decide +kernel
theorem d_X0_increment_0 : decode b_X0_increment 0 = .ok (.iconst 0, 1) := by decide +kernel
theorem d_X0_increment_1 : decode b_X0_increment 1 = .ok (.istore_n 1, 1) := by decide +kernel
theorem d_X0_increment_2 : decode b_X0_increment 2 = .ok (.iload_n 1, 1) := by decide +kernel
theorem d_X0_increment_3 : decode b_X0_increment 3 = .ok (.aload_n 0, 1) := by decide +kernel
theorem d_X0_increment_4 : decode b_X0_increment 4 = .ok (.getfield 15, 3) := by decide +kernel
theorem d_X0_increment_7 : decode b_X0_increment 7 = .ok (.if_icmp .ge 29, 3) := by decide +kernel
theorem d_X0_increment_10 : decode b_X0_increment 10 = .ok (.aload_n 0, 1) := by decide +kernel
theorem d_X0_increment_11 : decode b_X0_increment 11 = .ok (.getfield 9, 3) := by decide +kernel
theorem d_X0_increment_14 : decode b_X0_increment 14 = .ok (.iload_n 1, 1) := by decide +kernel
theorem d_X0_increment_15 : decode b_X0_increment 15 = .ok (.dup2, 1) := by decide +kernel
theorem d_X0_increment_16 : decode b_X0_increment 16 = .ok (.iaload, 1) := by decide +kernel
theorem d_X0_increment_17 : decode b_X0_increment 17 = .ok (.iconst 1, 1) := by decide +kernel
theorem d_X0_increment_18 : decode b_X0_increment 18 = .ok (.iadd, 1) := by decide +kernel
theorem d_X0_increment_19 : decode b_X0_increment 19 = .ok (.iastore, 1) := by decide +kernel
theorem d_X0_increment_20 : decode b_X0_increment 20 = .ok (.aload_n 0, 1) := by decide +kernel
theorem d_X0_increment_21 : decode b_X0_increment 21 = .ok (.getfield 9, 3) := by decide +kernel
theorem d_X0_increment_24 : decode b_X0_increment 24 = .ok (.iload_n 1, 1) := by decide +kernel
theorem d_X0_increment_25 : decode b_X0_increment 25 = .ok (.iaload, 1) := by decide +kernel
theorem d_X0_increment_26 : decode b_X0_increment 26 = .ok (.ifCond .eq 4, 3) := by decide +kernel
theorem d_X0_increment_29 : decode b_X0_increment 29 = .ok (.return_, 1) := by decide +kernel
theorem d_X0_increment_30 : decode b_X0_increment 30 = .ok (.iinc 1 1, 3) := by decide +kernel
theorem d_X0_increment_33 : decode b_X0_increment 33 = .ok (.goto (-31), 3) := by decide +kernel
theorem d_X0_increment_36 : decode b_X0_increment 36 = .ok (.return_, 1) := by decide +kernel
theorem d_X0_shiftUp_0 : decode b_X0_shiftUp 0 = .ok (.iload_n 1, 1) := by decide +kernel
theorem d_X0_shiftUp_1 : decode b_X0_shiftUp 1 = .ok (.iconst 5, 1) := by decide +kernel
theorem d_X0_shiftUp_2 : decode b_X0_shiftUp 2 = .ok (.ishr, 1) := by decide +kernel
theorem d_X0_shiftUp_3 : decode b_X0_shiftUp 3 = .ok (.istore_n 2, 1) := by decide +kernel
theorem d_X0_shiftUp_4 : decode b_X0_shiftUp 4 = .ok (.iload_n 1, 1) := by decide +kernel
theorem d_X0_shiftUp_5 : decode b_X0_shiftUp 5 = .ok (.bipush 31, 2) := by decide +kernel
theorem d_X0_shiftUp_7 : decode b_X0_shiftUp 7 = .ok (.iand, 1) := by decide +kernel
theorem d_X0_shiftUp_8 : decode b_X0_shiftUp 8 = .ok (.istore_n 3, 1) := by decide +kernel
theorem d_X0_shiftUp_9 : decode b_X0_shiftUp 9 = .ok (.aload_n 0, 1) := by decide +kernel
theorem d_X0_shiftUp_10 : decode b_X0_shiftUp 10 = .ok (.getfield 15, 3) := by decide +kernel
theorem d_X0_shiftUp_13 : decode b_X0_shiftUp 13 = .ok (.iconst 1, 1) := by decide +kernel
theorem d_X0_shiftUp_14 : decode b_X0_shiftUp 14 = .ok (.isub, 1) := by decide +kernel
theorem d_X0_shiftUp_15 : decode b_X0_shiftUp 15 = .ok (.istore 4, 2) := by decide +kernel
theorem d_X0_shiftUp_17 : decode b_X0_shiftUp 17 = .ok (.iload 4, 2) := by decide +kernel
theorem d_X0_shiftUp_19 : decode b_X0_shiftUp 19 = .ok (.ifCond .lt 32, 3) := by decide +kernel
theorem d_X0_shiftUp_22 : decode b_X0_shiftUp 22 = .ok (.aload_n 0, 1) := by decide +kernel
theorem d_X0_shiftUp_23 : decode b_X0_shiftUp 23 = .ok (.getfield 9, 3) := by decide +kernel
theorem d_X0_shiftUp_26 : decode b_X0_shiftUp 26 = .ok (.iload 4, 2) := by decide +kernel
theorem d_X0_shiftUp_28 : decode b_X0_shiftUp 28 = .ok (.aload_n 0, 1) := by decide +kernel
theorem d_X0_shiftUp_29 : decode b_X0_shiftUp 29 = .ok (.iload 4, 2) := by decide +kernel
theorem d_X0_shiftUp_31 : decode b_X0_shiftUp 31 = .ok (.iload_n 2, 1) := by decide +kernel
theorem d_X0_shiftUp_32 : decode b_X0_shiftUp 32 = .ok (.isub, 1) := by decide +kernel
theorem d_X0_shiftUp_33 : decode b_X0_shiftUp 33 = .ok (.iconst 1, 1) := by decide +kernel
theorem d_X0_shiftUp_34 : decode b_X0_shiftUp 34 = .ok (.isub, 1) := by decide +kernel
theorem d_X0_shiftUp_35 : decode b_X0_shiftUp 35 = .ok (.invokevirtual 75, 3) := by decide +kernel
theorem d_X0_shiftUp_38 : decode b_X0_shiftUp 38 = .ok (.iload_n 3, 1) := by decide +kernel
theorem d_X0_shiftUp_39 : decode b_X0_shiftUp 39 = .ok (.lshl, 1) := by decide +kernel
theorem d_X0_shiftUp_40 : decode b_X0_shiftUp 40 = .ok (.bipush 32, 2) := by decide +kernel
theorem d_X0_shiftUp_42 : decode b_X0_shiftUp 42 = .ok (.lushr, 1) := by decide +kernel
theorem d_X0_shiftUp_43 : decode b_X0_shiftUp 43 = .ok (.l2i, 1) := by decide +kernel
theorem d_X0_shiftUp_44 : decode b_X0_shiftUp 44 = .ok (.iastore, 1) := by decide +kernel
theorem d_X0_shiftUp_45 : decode b_X0_shiftUp 45 = .ok (.iinc 4 (-1), 3) := by decide +kernel
theorem d_X0_shiftUp_48 : decode b_X0_shiftUp 48 = .ok (.goto (-31), 3) := by decide +kernel
theorem d_X0_shiftUp_51 : decode b_X0_shiftUp 51 = .ok (.return_, 1) := by decide +kernel
theorem d_X0_pairAt_0 : decode b_X0_pairAt 0 = .ok (.aload_n 0, 1) := by decide +kernel
theorem d_X0_pairAt_1 : decode b_X0_pairAt 1 = .ok (.iload_n 1, 1) := by decide +kernel
theorem d_X0_pairAt_2 : decode b_X0_pairAt 2 = .ok (.iconst 1, 1) := by decide +kernel
theorem d_X0_pairAt_3 : decode b_X0_pairAt 3 = .ok (.iadd, 1) := by decide +kernel
theorem d_X0_pairAt_4 : decode b_X0_pairAt 4 = .ok (.invokevirtual 21, 3) := by decide +kernel
theorem d_X0_pairAt_7 : decode b_X0_pairAt 7 = .ok (.invokestatic 39, 3) := by decide +kernel
theorem d_X0_pairAt_10 : decode b_X0_pairAt 10 = .ok (.bipush 32, 2) := by decide +kernel
theorem d_X0_pairAt_12 : decode b_X0_pairAt 12 = .ok (.lshl, 1) := by decide +kernel
theorem d_X0_pairAt_13 : decode b_X0_pairAt 13 = .ok (.aload_n 0, 1) := by decide +kernel
theorem d_X0_pairAt_14 : decode b_X0_pairAt 14 = .ok (.iload_n 1, 1) := by decide +kernel
theorem d_X0_pairAt_15 : decode b_X0_pairAt 15 = .ok (.invokevirtual 21, 3) := by decide +kernel
theorem d_X0_pairAt_18 : decode b_X0_pairAt 18 = .ok (.invokestatic 39, 3) := by decide +kernel
theorem d_X0_pairAt_21 : decode b_X0_pairAt 21 = .ok (.lor, 1) := by decide +kernel
theorem d_X0_pairAt_22 : decode b_X0_pairAt 22 = .ok (.lreturn, 1) := by decide +kernel
theorem d_X0_shiftDown_0 : decode b_X0_shiftDown 0 = .ok (.iload_n 1, 1) := by decide +kernel
theorem d_X0_shiftDown_1 : decode b_X0_shiftDown 1 = .ok (.iconst 5, 1) := by decide +kernel
theorem d_X0_shiftDown_2 : decode b_X0_shiftDown 2 = .ok (.ishr, 1) := by decide +kernel
theorem d_X0_shiftDown_3 : decode b_X0_shiftDown 3 = .ok (.istore_n 2, 1) := by decide +kernel
theorem d_X0_shiftDown_4 : decode b_X0_shiftDown 4 = .ok (.iload_n 1, 1) := by decide +kernel
theorem d_X0_shiftDown_5 : decode b_X0_shiftDown 5 = .ok (.bipush 31, 2) := by decide +kernel
theorem d_X0_shiftDown_7 : decode b_X0_shiftDown 7 = .ok (.iand, 1) := by decide +kernel
theorem d_X0_shiftDown_8 : decode b_X0_shiftDown 8 = .ok (.istore_n 3, 1) := by decide +kernel
theorem d_X0_shiftDown_9 : decode b_X0_shiftDown 9 = .ok (.iconst 0, 1) := by decide +kernel
theorem d_X0_shiftDown_10 : decode b_X0_shiftDown 10 = .ok (.istore 4, 2) := by decide +kernel
theorem d_X0_shiftDown_12 : decode b_X0_shiftDown 12 = .ok (.iload 4, 2) := by decide +kernel
theorem d_X0_shiftDown_14 : decode b_X0_shiftDown 14 = .ok (.aload_n 0, 1) := by decide +kernel
theorem d_X0_shiftDown_15 : decode b_X0_shiftDown 15 = .ok (.getfield 15, 3) := by decide +kernel
theorem d_X0_shiftDown_18 : decode b_X0_shiftDown 18 = .ok (.if_icmp .ge 27, 3) := by decide +kernel
theorem d_X0_shiftDown_21 : decode b_X0_shiftDown 21 = .ok (.aload_n 0, 1) := by decide +kernel
theorem d_X0_shiftDown_22 : decode b_X0_shiftDown 22 = .ok (.getfield 9, 3) := by decide +kernel
theorem d_X0_shiftDown_25 : decode b_X0_shiftDown 25 = .ok (.iload 4, 2) := by decide +kernel
theorem d_X0_shiftDown_27 : decode b_X0_shiftDown 27 = .ok (.aload_n 0, 1) := by decide +kernel
theorem d_X0_shiftDown_28 : decode b_X0_shiftDown 28 = .ok (.iload 4, 2) := by decide +kernel
theorem d_X0_shiftDown_30 : decode b_X0_shiftDown 30 = .ok (.iload_n 2, 1) := by decide +kernel
theorem d_X0_shiftDown_31 : decode b_X0_shiftDown 31 = .ok (.iadd, 1) := by decide +kernel
theorem d_X0_shiftDown_32 : decode b_X0_shiftDown 32 = .ok (.invokevirtual 75, 3) := by decide +kernel
theorem d_X0_shiftDown_35 : decode b_X0_shiftDown 35 = .ok (.iload_n 3, 1) := by decide +kernel
theorem d_X0_shiftDown_36 : decode b_X0_shiftDown 36 = .ok (.lushr, 1) := by decide +kernel
theorem d_X0_shiftDown_37 : decode b_X0_shiftDown 37 = .ok (.l2i, 1) := by decide +kernel
theorem d_X0_shiftDown_38 : decode b_X0_shiftDown 38 = .ok (.iastore, 1) := by decide +kernel
theorem d_X0_shiftDown_39 : decode b_X0_shiftDown 39 = .ok (.iinc 4 1, 3) := by decide +kernel
theorem d_X0_shiftDown_42 : decode b_X0_shiftDown 42 = .ok (.goto (-30), 3) := by decide +kernel
theorem d_X0_shiftDown_45 : decode b_X0_shiftDown 45 = .ok (.return_, 1) := by decide +kernel
theorem d_X0_roundsUp_0 : decode b_X0_roundsUp 0 = .ok (.iload_n 1, 1) := by decide +kernel
theorem d_X0_roundsUp_1 : decode b_X0_roundsUp 1 = .ok (.ifCond .eq 13, 3) := by decide +kernel
theorem d_X0_roundsUp_4 : decode b_X0_roundsUp 4 = .ok (.aload_n 0, 1) := by decide +kernel
theorem d_X0_roundsUp_5 : decode b_X0_roundsUp 5 = .ok (.iload_n 1, 1) := by decide +kernel
theorem d_X0_roundsUp_6 : decode b_X0_roundsUp 6 = .ok (.iconst 1, 1) := by decide +kernel
theorem d_X0_roundsUp_7 : decode b_X0_roundsUp 7 = .ok (.isub, 1) := by decide +kernel
theorem d_X0_roundsUp_8 : decode b_X0_roundsUp 8 = .ok (.invokevirtual 78, 3) := by decide +kernel
theorem d_X0_roundsUp_11 : decode b_X0_roundsUp 11 = .ok (.ifCond .ne 5, 3) := by decide +kernel
theorem d_X0_roundsUp_14 : decode b_X0_roundsUp 14 = .ok (.iconst 0, 1) := by decide +kernel
theorem d_X0_roundsUp_15 : decode b_X0_roundsUp 15 = .ok (.ireturn, 1) := by decide +kernel
theorem d_X0_roundsUp_16 : decode b_X0_roundsUp 16 = .ok (.aload_n 0, 1) := by decide +kernel
theorem d_X0_roundsUp_17 : decode b_X0_roundsUp 17 = .ok (.invokevirtual 81, 3) := by decide +kernel
theorem d_X0_roundsUp_20 : decode b_X0_roundsUp 20 = .ok (.iload_n 1, 1) := by decide +kernel
theorem d_X0_roundsUp_21 : decode b_X0_roundsUp 21 = .ok (.iconst 1, 1) := by decide +kernel
theorem d_X0_roundsUp_22 : decode b_X0_roundsUp 22 = .ok (.isub, 1) := by decide +kernel
theorem d_X0_roundsUp_23 : decode b_X0_roundsUp 23 = .ok (.if_icmp .ne 7, 3) := by decide +kernel
theorem d_X0_roundsUp_26 : decode b_X0_roundsUp 26 = .ok (.iconst 1, 1) := by decide +kernel
theorem d_X0_roundsUp_27 : decode b_X0_roundsUp 27 = .ok (.goto 4, 3) := by decide +kernel
theorem d_X0_roundsUp_30 : decode b_X0_roundsUp 30 = .ok (.iconst 0, 1) := by decide +kernel
theorem d_X0_roundsUp_31 : decode b_X0_roundsUp 31 = .ok (.istore_n 2, 1) := by decide +kernel
theorem d_X0_roundsUp_32 : decode b_X0_roundsUp 32 = .ok (.iload_n 2, 1) := by decide +kernel
theorem d_X0_roundsUp_33 : decode b_X0_roundsUp 33 = .ok (.ifCond .eq 12, 3) := by decide +kernel
theorem d_X0_roundsUp_36 : decode b_X0_roundsUp 36 = .ok (.aload_n 0, 1) := by decide +kernel
theorem d_X0_roundsUp_37 : decode b_X0_roundsUp 37 = .ok (.iload_n 1, 1) := by decide +kernel
theorem d_X0_roundsUp_38 : decode b_X0_roundsUp 38 = .ok (.invokevirtual 78, 3) := by decide +kernel
theorem d_X0_roundsUp_41 : decode b_X0_roundsUp 41 = .ok (.iconst 1, 1) := by decide +kernel
theorem d_X0_roundsUp_42 : decode b_X0_roundsUp 42 = .ok (.if_icmp .ne 7, 3) := by decide +kernel
theorem d_X0_roundsUp_45 : decode b_X0_roundsUp 45 = .ok (.iconst 1, 1) := by decide +kernel
theorem d_X0_roundsUp_46 : decode b_X0_roundsUp 46 = .ok (.goto 4, 3) := by decide +kernel
theorem d_X0_roundsUp_49 : decode b_X0_roundsUp 49 = .ok (.iconst 0, 1) := by decide +kernel
theorem d_X0_roundsUp_50 : decode b_X0_roundsUp 50 = .ok (.ireturn, 1) := by decide +kernel
theorem d_X0_bitAt_0 : decode b_X0_bitAt 0 = .ok (.aload_n 0, 1) := by decide +kernel
theorem d_X0_bitAt_1 : decode b_X0_bitAt 1 = .ok (.iload_n 1, 1) := by decide +kernel
theorem d_X0_bitAt_2 : decode b_X0_bitAt 2 = .ok (.iconst 5, 1) := by decide +kernel
theorem d_X0_bitAt_3 : decode b_X0_bitAt 3 = .ok (.ishr, 1) := by decide +kernel
theorem d_X0_bitAt_4 : decode b_X0_bitAt 4 = .ok (.invokevirtual 21, 3) := by decide +kernel
theorem d_X0_bitAt_7 : decode b_X0_bitAt 7 = .ok (.iload_n 1, 1) := by decide +kernel
theorem d_X0_bitAt_8 : decode b_X0_bitAt 8 = .ok (.bipush 31, 2) := by decide +kernel
theorem d_X0_bitAt_10 : decode b_X0_bitAt 10 = .ok (.iand, 1) := by decide +kernel
theorem d_X0_bitAt_11 : decode b_X0_bitAt 11 = .ok (.iushr, 1) := by decide +kernel
theorem d_X0_bitAt_12 : decode b_X0_bitAt 12 = .ok (.iconst 1, 1) := by decide +kernel
theorem d_X0_bitAt_13 : decode b_X0_bitAt 13 = .ok (.iand, 1) := by decide +kernel
theorem d_X0_bitAt_14 : decode b_X0_bitAt 14 = .ok (.ireturn, 1) := by decide +kernel
theorem d_X0_trailingZeros_0 : decode b_X0_trailingZeros 0 = .ok (.iconst 0, 1) := by decide +kernel
theorem d_X0_trailingZeros_1 : decode b_X0_trailingZeros 1 = .ok (.istore_n 1, 1) := by decide +kernel
theorem d_X0_trailingZeros_2 : decode b_X0_trailingZeros 2 = .ok (.iload_n 1, 1) := by decide +kernel
theorem d_X0_trailingZeros_3 : decode b_X0_trailingZeros 3 = .ok (.aload_n 0, 1) := by decide +kernel
theorem d_X0_trailingZeros_4 : decode b_X0_trailingZeros 4 = .ok (.getfield 15, 3) := by decide +kernel
theorem d_X0_trailingZeros_7 : decode b_X0_trailingZeros 7 = .ok (.if_icmp .ge 33, 3) := by decide +kernel
theorem d_X0_trailingZeros_10 : decode b_X0_trailingZeros 10 = .ok (.aload_n 0, 1) := by decide +kernel
theorem d_X0_trailingZeros_11 : decode b_X0_trailingZeros 11 = .ok (.getfield 9, 3) := by decide +kernel
theorem d_X0_trailingZeros_14 : decode b_X0_trailingZeros 14 = .ok (.iload_n 1, 1) := by decide +kernel
theorem d_X0_trailingZeros_15 : decode b_X0_trailingZeros 15 = .ok (.iaload, 1) := by decide +kernel
theorem d_X0_trailingZeros_16 : decode b_X0_trailingZeros 16 = .ok (.ifCond .eq 18, 3) := by decide +kernel
theorem d_X0_trailingZeros_19 : decode b_X0_trailingZeros 19 = .ok (.bipush 32, 2) := by decide +kernel
theorem d_X0_trailingZeros_21 : decode b_X0_trailingZeros 21 = .ok (.iload_n 1, 1) := by decide +kernel
theorem d_X0_trailingZeros_22 : decode b_X0_trailingZeros 22 = .ok (.imul, 1) := by decide +kernel
theorem d_X0_trailingZeros_23 : decode b_X0_trailingZeros 23 = .ok (.aload_n 0, 1) := by decide +kernel
theorem d_X0_trailingZeros_24 : decode b_X0_trailingZeros 24 = .ok (.getfield 9, 3) := by decide +kernel
theorem d_X0_trailingZeros_27 : decode b_X0_trailingZeros 27 = .ok (.iload_n 1, 1) := by decide +kernel
theorem d_X0_trailingZeros_28 : decode b_X0_trailingZeros 28 = .ok (.iaload, 1) := by decide +kernel
theorem d_X0_trailingZeros_29 : decode b_X0_trailingZeros 29 = .ok (.invokestatic 92, 3) := by decide +kernel
theorem d_X0_trailingZeros_32 : decode b_X0_trailingZeros 32 = .ok (.iadd, 1) := by decide +kernel
theorem d_X0_trailingZeros_33 : decode b_X0_trailingZeros 33 = .ok (.ireturn, 1) := by decide +kernel
theorem d_X0_trailingZeros_34 : decode b_X0_trailingZeros 34 = .ok (.iinc 1 1, 3) := by decide +kernel
theorem d_X0_trailingZeros_37 : decode b_X0_trailingZeros 37 = .ok (.goto (-35), 3) := by decide +kernel
theorem d_X0_trailingZeros_40 : decode b_X0_trailingZeros 40 = .ok (.bipush 32, 2) := by decide +kernel
theorem d_X0_trailingZeros_42 : decode b_X0_trailingZeros 42 = .ok (.aload_n 0, 1) := by decide +kernel
theorem d_X0_trailingZeros_43 : decode b_X0_trailingZeros 43 = .ok (.getfield 15, 3) := by decide +kernel
theorem d_X0_trailingZeros_46 : decode b_X0_trailingZeros 46 = .ok (.imul, 1) := by decide +kernel
theorem d_X0_trailingZeros_47 : decode b_X0_trailingZeros 47 = .ok (.ireturn, 1) := by decide +kernel
theorem d_X0_divideBy_0 : decode b_X0_divideBy 0 = .ok (.aload_n 0, 1) := by decide +kernel
theorem d_X0_divideBy_1 : decode b_X0_divideBy 1 = .ok (.invokevirtual 57, 3) := by decide +kernel
theorem d_X0_divideBy_4 : decode b_X0_divideBy 4 = .ok (.ifCond .ne 9, 3) := by decide +kernel
theorem d_X0_divideBy_7 : decode b_X0_divideBy 7 = .ok (.aload_n 0, 1) := by decide +kernel
theorem d_X0_divideBy_8 : decode b_X0_divideBy 8 = .ok (.lload_n 1, 1) := by decide +kernel
theorem d_X0_divideBy_9 : decode b_X0_divideBy 9 = .ok (.invokevirtual 84, 3) := by decide +kernel
theorem d_X0_divideBy_12 : decode b_X0_divideBy 12 = .ok (.lreturn, 1) := by decide +kernel
theorem d_X0_divideBy_13 : decode b_X0_divideBy 13 = .ok (.aload_n 0, 1) := by decide +kernel
theorem d_X0_divideBy_14 : decode b_X0_divideBy 14 = .ok (.invokevirtual 65, 3) := by decide +kernel
theorem d_X0_divideBy_17 : decode b_X0_divideBy 17 = .ok (.aload_n 0, 1) := by decide +kernel
theorem d_X0_divideBy_18 : decode b_X0_divideBy 18 = .ok (.lload_n 1, 1) := by decide +kernel
theorem d_X0_divideBy_19 : decode b_X0_divideBy 19 = .ok (.invokevirtual 84, 3) := by decide +kernel
theorem d_X0_divideBy_22 : decode b_X0_divideBy 22 = .ok (.lstore_n 3, 1) := by decide +kernel
theorem d_X0_divideBy_23 : decode b_X0_divideBy 23 = .ok (.aload_n 0, 1) := by decide +kernel
theorem d_X0_divideBy_24 : decode b_X0_divideBy 24 = .ok (.invokevirtual 65, 3) := by decide +kernel
theorem d_X0_divideBy_27 : decode b_X0_divideBy 27 = .ok (.lload_n 1, 1) := by decide +kernel
theorem d_X0_divideBy_28 : decode b_X0_divideBy 28 = .ok (.lconst 1, 1) := by decide +kernel
theorem d_X0_divideBy_29 : decode b_X0_divideBy 29 = .ok (.lsub, 1) := by decide +kernel
theorem d_X0_divideBy_30 : decode b_X0_divideBy 30 = .ok (.lload_n 3, 1) := by decide +kernel
theorem d_X0_divideBy_31 : decode b_X0_divideBy 31 = .ok (.lsub, 1) := by decide +kernel
theorem d_X0_divideBy_32 : decode b_X0_divideBy 32 = .ok (.lreturn, 1) := by decide +kernel
theorem d_X0_divideLimbs_0 : decode b_X0_divideLimbs 0 = .ok (.lconst 0, 1) := by decide +kernel
theorem d_X0_divideLimbs_1 : decode b_X0_divideLimbs 1 = .ok (.lstore_n 3, 1) := by decide +kernel
theorem d_X0_divideLimbs_2 : decode b_X0_divideLimbs 2 = .ok (.aload_n 0, 1) := by decide +kernel
theorem d_X0_divideLimbs_3 : decode b_X0_divideLimbs 3 = .ok (.getfield 15, 3) := by decide +kernel
theorem d_X0_divideLimbs_6 : decode b_X0_divideLimbs 6 = .ok (.iconst 1, 1) := by decide +kernel
theorem d_X0_divideLimbs_7 : decode b_X0_divideLimbs 7 = .ok (.isub, 1) := by decide +kernel
theorem d_X0_divideLimbs_8 : decode b_X0_divideLimbs 8 = .ok (.istore 5, 2) := by decide +kernel
theorem d_X0_divideLimbs_10 : decode b_X0_divideLimbs 10 = .ok (.iload 5, 2) := by decide +kernel
theorem d_X0_divideLimbs_12 : decode b_X0_divideLimbs 12 = .ok (.ifCond .lt 18, 3) := by decide +kernel
theorem d_X0_divideLimbs_15 : decode b_X0_divideLimbs 15 = .ok (.aload_n 0, 1) := by decide +kernel
theorem d_X0_divideLimbs_16 : decode b_X0_divideLimbs 16 = .ok (.iload 5, 2) := by decide +kernel
theorem d_X0_divideLimbs_18 : decode b_X0_divideLimbs 18 = .ok (.lload_n 3, 1) := by decide +kernel
theorem d_X0_divideLimbs_19 : decode b_X0_divideLimbs 19 = .ok (.lload_n 1, 1) := by decide +kernel
theorem d_X0_divideLimbs_20 : decode b_X0_divideLimbs 20 = .ok (.invokevirtual 88, 3) := by decide +kernel
theorem d_X0_divideLimbs_23 : decode b_X0_divideLimbs 23 = .ok (.lstore_n 3, 1) := by decide +kernel
theorem d_X0_divideLimbs_24 : decode b_X0_divideLimbs 24 = .ok (.iinc 5 (-1), 3) := by decide +kernel
theorem d_X0_divideLimbs_27 : decode b_X0_divideLimbs 27 = .ok (.goto (-17), 3) := by decide +kernel
theorem d_X0_divideLimbs_30 : decode b_X0_divideLimbs 30 = .ok (.lload_n 3, 1) := by decide +kernel
theorem d_X0_divideLimbs_31 : decode b_X0_divideLimbs 31 = .ok (.lreturn, 1) := by decide +kernel
theorem d_X0_divideLimb_0 : decode b_X0_divideLimb 0 = .ok (.lload_n 2, 1) := by decide +kernel
theorem d_X0_divideLimb_1 : decode b_X0_divideLimb 1 = .ok (.lstore 6, 2) := by decide +kernel
theorem d_X0_divideLimb_3 : decode b_X0_divideLimb 3 = .ok (.iconst 0, 1) := by decide +kernel
theorem d_X0_divideLimb_4 : decode b_X0_divideLimb 4 = .ok (.istore 8, 2) := by decide +kernel
theorem d_X0_divideLimb_6 : decode b_X0_divideLimb 6 = .ok (.bipush 31, 2) := by decide +kernel
theorem d_X0_divideLimb_8 : decode b_X0_divideLimb 8 = .ok (.istore 9, 2) := by decide +kernel
theorem d_X0_divideLimb_10 : decode b_X0_divideLimb 10 = .ok (.iload 9, 2) := by decide +kernel
theorem d_X0_divideLimb_12 : decode b_X0_divideLimb 12 = .ok (.ifCond .lt 55, 3) := by decide +kernel
theorem d_X0_divideLimb_15 : decode b_X0_divideLimb 15 = .ok (.lload 6, 2) := by decide +kernel
theorem d_X0_divideLimb_17 : decode b_X0_divideLimb 17 = .ok (.iconst 1, 1) := by decide +kernel
theorem d_X0_divideLimb_18 : decode b_X0_divideLimb 18 = .ok (.lshl, 1) := by decide +kernel
theorem d_X0_divideLimb_19 : decode b_X0_divideLimb 19 = .ok (.aload_n 0, 1) := by decide +kernel
theorem d_X0_divideLimb_20 : decode b_X0_divideLimb 20 = .ok (.getfield 9, 3) := by decide +kernel
theorem d_X0_divideLimb_23 : decode b_X0_divideLimb 23 = .ok (.iload_n 1, 1) := by decide +kernel
theorem d_X0_divideLimb_24 : decode b_X0_divideLimb 24 = .ok (.iaload, 1) := by decide +kernel
theorem d_X0_divideLimb_25 : decode b_X0_divideLimb 25 = .ok (.iload 9, 2) := by decide +kernel
theorem d_X0_divideLimb_27 : decode b_X0_divideLimb 27 = .ok (.iushr, 1) := by decide +kernel
theorem d_X0_divideLimb_28 : decode b_X0_divideLimb 28 = .ok (.iconst 1, 1) := by decide +kernel
theorem d_X0_divideLimb_29 : decode b_X0_divideLimb 29 = .ok (.iand, 1) := by decide +kernel
theorem d_X0_divideLimb_30 : decode b_X0_divideLimb 30 = .ok (.i2l, 1) := by decide +kernel
theorem d_X0_divideLimb_31 : decode b_X0_divideLimb 31 = .ok (.lor, 1) := by decide +kernel
theorem d_X0_divideLimb_32 : decode b_X0_divideLimb 32 = .ok (.lstore 6, 2) := by decide +kernel
theorem d_X0_divideLimb_34 : decode b_X0_divideLimb 34 = .ok (.iload 8, 2) := by decide +kernel
theorem d_X0_divideLimb_36 : decode b_X0_divideLimb 36 = .ok (.iconst 1, 1) := by decide +kernel
theorem d_X0_divideLimb_37 : decode b_X0_divideLimb 37 = .ok (.ishl, 1) := by decide +kernel
theorem d_X0_divideLimb_38 : decode b_X0_divideLimb 38 = .ok (.istore 8, 2) := by decide +kernel
theorem d_X0_divideLimb_40 : decode b_X0_divideLimb 40 = .ok (.lload 6, 2) := by decide +kernel
theorem d_X0_divideLimb_42 : decode b_X0_divideLimb 42 = .ok (.lload 4, 2) := by decide +kernel
theorem d_X0_divideLimb_44 : decode b_X0_divideLimb 44 = .ok (.lcmp, 1) := by decide +kernel
theorem d_X0_divideLimb_45 : decode b_X0_divideLimb 45 = .ok (.ifCond .lt 16, 3) := by decide +kernel
theorem d_X0_divideLimb_48 : decode b_X0_divideLimb 48 = .ok (.lload 6, 2) := by decide +kernel
theorem d_X0_divideLimb_50 : decode b_X0_divideLimb 50 = .ok (.lload 4, 2) := by decide +kernel
theorem d_X0_divideLimb_52 : decode b_X0_divideLimb 52 = .ok (.lsub, 1) := by decide +kernel
theorem d_X0_divideLimb_53 : decode b_X0_divideLimb 53 = .ok (.lstore 6, 2) := by decide +kernel
theorem d_X0_divideLimb_55 : decode b_X0_divideLimb 55 = .ok (.iload 8, 2) := by decide +kernel
theorem d_X0_divideLimb_57 : decode b_X0_divideLimb 57 = .ok (.iconst 1, 1) := by decide +kernel
theorem d_X0_divideLimb_58 : decode b_X0_divideLimb 58 = .ok (.ior, 1) := by decide +kernel
theorem d_X0_divideLimb_59 : decode b_X0_divideLimb 59 = .ok (.istore 8, 2) := by decide +kernel
theorem d_X0_divideLimb_61 : decode b_X0_divideLimb 61 = .ok (.iinc 9 (-1), 3) := by decide +kernel
theorem d_X0_divideLimb_64 : decode b_X0_divideLimb 64 = .ok (.goto (-54), 3) := by decide +kernel
theorem d_X0_divideLimb_67 : decode b_X0_divideLimb 67 = .ok (.aload_n 0, 1) := by decide +kernel
theorem d_X0_divideLimb_68 : decode b_X0_divideLimb 68 = .ok (.getfield 9, 3) := by decide +kernel
theorem d_X0_divideLimb_71 : decode b_X0_divideLimb 71 = .ok (.iload_n 1, 1) := by decide +kernel
theorem d_X0_divideLimb_72 : decode b_X0_divideLimb 72 = .ok (.iload 8, 2) := by decide +kernel
theorem d_X0_divideLimb_74 : decode b_X0_divideLimb 74 = .ok (.iastore, 1) := by decide +kernel
theorem d_X0_divideLimb_75 : decode b_X0_divideLimb 75 = .ok (.lload 6, 2) := by decide +kernel
theorem d_X0_divideLimb_77 : decode b_X0_divideLimb 77 = .ok (.lreturn, 1) := by decide +kernel
theorem d_X0_order_0 : decode b_X0_order 0 = .ok (.aload_n 0, 1) := by decide +kernel
theorem d_X0_order_1 : decode b_X0_order 1 = .ok (.invokevirtual 57, 3) := by decide +kernel
theorem d_X0_order_4 : decode b_X0_order 4 = .ok (.aload_n 1, 1) := by decide +kernel
theorem d_X0_order_5 : decode b_X0_order 5 = .ok (.invokevirtual 57, 3) := by decide +kernel
theorem d_X0_order_8 : decode b_X0_order 8 = .ok (.if_icmp .eq 16, 3) := by decide +kernel
theorem d_X0_order_11 : decode b_X0_order 11 = .ok (.aload_n 0, 1) := by decide +kernel
theorem d_X0_order_12 : decode b_X0_order 12 = .ok (.invokevirtual 57, 3) := by decide +kernel
theorem d_X0_order_15 : decode b_X0_order 15 = .ok (.ifCond .eq 7, 3) := by decide +kernel
theorem d_X0_order_18 : decode b_X0_order 18 = .ok (.iconst (-1), 1) := by decide +kernel
theorem d_X0_order_19 : decode b_X0_order 19 = .ok (.goto 4, 3) := by decide +kernel
theorem d_X0_order_22 : decode b_X0_order 22 = .ok (.iconst 1, 1) := by decide +kernel
theorem d_X0_order_23 : decode b_X0_order 23 = .ok (.ireturn, 1) := by decide +kernel
theorem d_X0_order_24 : decode b_X0_order 24 = .ok (.aload_n 0, 1) := by decide +kernel
theorem d_X0_order_25 : decode b_X0_order 25 = .ok (.getfield 15, 3) := by decide +kernel
theorem d_X0_order_28 : decode b_X0_order 28 = .ok (.aload_n 1, 1) := by decide +kernel
theorem d_X0_order_29 : decode b_X0_order 29 = .ok (.getfield 15, 3) := by decide +kernel
theorem d_X0_order_32 : decode b_X0_order 32 = .ok (.invokestatic 100, 3) := by decide +kernel
theorem d_X0_order_35 : decode b_X0_order 35 = .ok (.iconst 1, 1) := by decide +kernel
theorem d_X0_order_36 : decode b_X0_order 36 = .ok (.isub, 1) := by decide +kernel
theorem d_X0_order_37 : decode b_X0_order 37 = .ok (.istore_n 2, 1) := by decide +kernel
theorem d_X0_order_38 : decode b_X0_order 38 = .ok (.iload_n 2, 1) := by decide +kernel
theorem d_X0_order_39 : decode b_X0_order 39 = .ok (.ifCond .lt 48, 3) := by decide +kernel
theorem d_X0_order_42 : decode b_X0_order 42 = .ok (.aload_n 0, 1) := by decide +kernel
theorem d_X0_order_43 : decode b_X0_order 43 = .ok (.iload_n 2, 1) := by decide +kernel
theorem d_X0_order_44 : decode b_X0_order 44 = .ok (.invokevirtual 21, 3) := by decide +kernel
theorem d_X0_order_47 : decode b_X0_order 47 = .ok (.invokestatic 39, 3) := by decide +kernel
theorem d_X0_order_50 : decode b_X0_order 50 = .ok (.lstore_n 3, 1) := by decide +kernel
theorem d_X0_order_51 : decode b_X0_order 51 = .ok (.aload_n 1, 1) := by decide +kernel
theorem d_X0_order_52 : decode b_X0_order 52 = .ok (.iload_n 2, 1) := by decide +kernel
theorem d_X0_order_53 : decode b_X0_order 53 = .ok (.invokevirtual 21, 3) := by decide +kernel
theorem d_X0_order_56 : decode b_X0_order 56 = .ok (.invokestatic 39, 3) := by decide +kernel
theorem d_X0_order_59 : decode b_X0_order 59 = .ok (.lstore 5, 2) := by decide +kernel
theorem d_X0_order_61 : decode b_X0_order 61 = .ok (.lload_n 3, 1) := by decide +kernel
theorem d_X0_order_62 : decode b_X0_order 62 = .ok (.lload 5, 2) := by decide +kernel
theorem d_X0_order_64 : decode b_X0_order 64 = .ok (.lcmp, 1) := by decide +kernel
theorem d_X0_order_65 : decode b_X0_order 65 = .ok (.ifCond .eq 16, 3) := by decide +kernel
theorem d_X0_order_68 : decode b_X0_order 68 = .ok (.lload_n 3, 1) := by decide +kernel
theorem d_X0_order_69 : decode b_X0_order 69 = .ok (.lload 5, 2) := by decide +kernel
theorem d_X0_order_71 : decode b_X0_order 71 = .ok (.lcmp, 1) := by decide +kernel
theorem d_X0_order_72 : decode b_X0_order 72 = .ok (.ifCond .ge 7, 3) := by decide +kernel
theorem d_X0_order_75 : decode b_X0_order 75 = .ok (.iconst (-1), 1) := by decide +kernel
theorem d_X0_order_76 : decode b_X0_order 76 = .ok (.goto 4, 3) := by decide +kernel
theorem d_X0_order_79 : decode b_X0_order 79 = .ok (.iconst 1, 1) := by decide +kernel
theorem d_X0_order_80 : decode b_X0_order 80 = .ok (.ireturn, 1) := by decide +kernel
theorem d_X0_order_81 : decode b_X0_order 81 = .ok (.iinc 2 (-1), 3) := by decide +kernel
theorem d_X0_order_84 : decode b_X0_order 84 = .ok (.goto (-46), 3) := by decide +kernel
theorem d_X0_order_87 : decode b_X0_order 87 = .ok (.iconst 0, 1) := by decide +kernel
theorem d_X0_order_88 : decode b_X0_order 88 = .ok (.ireturn, 1) := by decide +kernel
