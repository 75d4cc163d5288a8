theorem d_X2_init_0 : decode b_X2_init 0 = .ok (.aload_n 0, 1) := by decide +kernel
theorem d_X2_init_1 : decode b_X2_init 1 = .ok (.invokespecial 1, 3) := by decide +kernel
theorem d_X2_init_4 : decode b_X2_init 4 = .ok (.aload_n 0, 1) := by decide +kernel
theorem d_X2_init_5 : decode b_X2_init 5 = .ok (.bipush 64, 2) := by decide +kernel
theorem d_X2_init_7 : decode b_X2_init 7 = .ok (.newarray .int, 2) := by decide +kernel
theorem d_X2_init_9 : decode b_X2_init 9 = .ok (.putfield 7, 3) := by decide +kernel
theorem d_X2_init_12 : decode b_X2_init 12 = .ok (.aload_n 0, 1) := by decide +kernel
theorem d_X2_init_13 : decode b_X2_init 13 = .ok (.ldc 13, 2) := by decide +kernel
theorem d_X2_init_15 : decode b_X2_init 15 = .ok (.newarray .int, 2) := by decide +kernel
theorem d_X2_init_17 : decode b_X2_init 17 = .ok (.putfield 14, 3) := by decide +kernel
theorem d_X2_init_20 : decode b_X2_init 20 = .ok (.aload_n 0, 1) := by decide +kernel
theorem d_X2_init_21 : decode b_X2_init 21 = .ok (.iconst 3, 1) := by decide +kernel
theorem d_X2_init_22 : decode b_X2_init 22 = .ok (.newarray .int, 2) := by decide +kernel
theorem d_X2_init_24 : decode b_X2_init 24 = .ok (.putfield 17, 3) := by decide +kernel
theorem d_X2_init_27 : decode b_X2_init 27 = .ok (.aload_n 0, 1) := by decide +kernel
theorem d_X2_init_28 : decode b_X2_init 28 = .ok (.sipush 3300, 3) := by decide +kernel
theorem d_X2_init_31 : decode b_X2_init 31 = .ok (.newarray .int, 2) := by decide +kernel
theorem d_X2_init_33 : decode b_X2_init 33 = .ok (.putfield 20, 3) := by decide +kernel
theorem d_X2_init_36 : decode b_X2_init 36 = .ok (.iconst 0, 1) := by decide +kernel
theorem d_X2_init_37 : decode b_X2_init 37 = .ok (.istore_n 1, 1) := by decide +kernel
theorem d_X2_init_38 : decode b_X2_init 38 = .ok (.iload_n 1, 1) := by decide +kernel
theorem d_X2_init_39 : decode b_X2_init 39 = .ok (.bipush 64, 2) := by decide +kernel
theorem d_X2_init_41 : decode b_X2_init 41 = .ok (.if_icmp .ge 16, 3) := by decide +kernel
theorem d_X2_init_44 : decode b_X2_init 44 = .ok (.aload_n 0, 1) := by decide +kernel
theorem d_X2_init_45 : decode b_X2_init 45 = .ok (.getfield 7, 3) := by decide +kernel
theorem d_X2_init_48 : decode b_X2_init 48 = .ok (.iload_n 1, 1) := by decide +kernel
theorem d_X2_init_49 : decode b_X2_init 49 = .ok (.iconst 1, 1) := by decide +kernel
theorem d_X2_init_50 : decode b_X2_init 50 = .ok (.iastore, 1) := by decide +kernel
theorem d_X2_init_51 : decode b_X2_init 51 = .ok (.iinc 1 1, 3) := by decide +kernel
theorem d_X2_init_54 : decode b_X2_init 54 = .ok (.goto (-16), 3) := by decide +kernel
theorem d_X2_init_57 : decode b_X2_init 57 = .ok (.return_, 1) := by decide +kernel
theorem d_X2_thrown_0 : decode b_X2_thrown 0 = .ok (.aload_n 0, 1) := by decide +kernel
theorem d_X2_thrown_1 : decode b_X2_thrown 1 = .ok (.getfield 23, 3) := by decide +kernel
theorem d_X2_thrown_4 : decode b_X2_thrown 4 = .ok (.ireturn, 1) := by decide +kernel
theorem d_X2_widen_0 : decode b_X2_widen 0 = .ok (.aload_n 0, 1) := by decide +kernel
theorem d_X2_widen_1 : decode b_X2_widen 1 = .ok (.iload_n 1, 1) := by decide +kernel
theorem d_X2_widen_2 : decode b_X2_widen 2 = .ok (.invokestatic 62, 3) := by decide +kernel
theorem d_X2_widen_5 : decode b_X2_widen 5 = .ok (.ifCond .ne 7, 3) := by decide +kernel
theorem d_X2_widen_8 : decode b_X2_widen 8 = .ok (.iconst 1, 1) := by decide +kernel
theorem d_X2_widen_9 : decode b_X2_widen 9 = .ok (.goto 20, 3) := by decide +kernel
theorem d_X2_widen_12 : decode b_X2_widen 12 = .ok (.iload_n 2, 1) := by decide +kernel
theorem d_X2_widen_13 : decode b_X2_widen 13 = .ok (.iconst 1, 1) := by decide +kernel
theorem d_X2_widen_14 : decode b_X2_widen 14 = .ok (.if_icmp .lt 10, 3) := by decide +kernel
theorem d_X2_widen_17 : decode b_X2_widen 17 = .ok (.iload_n 2, 1) := by decide +kernel
theorem d_X2_widen_18 : decode b_X2_widen 18 = .ok (.sipush 256, 3) := by decide +kernel
theorem d_X2_widen_21 : decode b_X2_widen 21 = .ok (.if_icmp .le 7, 3) := by decide +kernel
theorem d_X2_widen_24 : decode b_X2_widen 24 = .ok (.iconst 2, 1) := by decide +kernel
theorem d_X2_widen_25 : decode b_X2_widen 25 = .ok (.goto 4, 3) := by decide +kernel
theorem d_X2_widen_28 : decode b_X2_widen 28 = .ok (.iconst 0, 1) := by decide +kernel
theorem d_X2_widen_29 : decode b_X2_widen 29 = .ok (.invokevirtual 65, 3) := by decide +kernel
theorem d_X2_widen_32 : decode b_X2_widen 32 = .ok (.ifCond .eq 5, 3) := by decide +kernel
theorem d_X2_widen_35 : decode b_X2_widen 35 = .ok (.iconst 0, 1) := by decide +kernel
theorem d_X2_widen_36 : decode b_X2_widen 36 = .ok (.ireturn, 1) := by decide +kernel
theorem d_X2_widen_37 : decode b_X2_widen 37 = .ok (.aload_n 0, 1) := by decide +kernel
theorem d_X2_widen_38 : decode b_X2_widen 38 = .ok (.iconst 0, 1) := by decide +kernel
theorem d_X2_widen_39 : decode b_X2_widen 39 = .ok (.iload_n 1, 1) := by decide +kernel
theorem d_X2_widen_40 : decode b_X2_widen 40 = .ok (.invokevirtual 53, 3) := by decide +kernel
theorem d_X2_widen_43 : decode b_X2_widen 43 = .ok (.aload_n 0, 1) := by decide +kernel
theorem d_X2_widen_44 : decode b_X2_widen 44 = .ok (.getfield 7, 3) := by decide +kernel
theorem d_X2_widen_47 : decode b_X2_widen 47 = .ok (.iload_n 1, 1) := by decide +kernel
theorem d_X2_widen_48 : decode b_X2_widen 48 = .ok (.iload_n 2, 1) := by decide +kernel
theorem d_X2_widen_49 : decode b_X2_widen 49 = .ok (.iastore, 1) := by decide +kernel
theorem d_X2_widen_50 : decode b_X2_widen 50 = .ok (.aload_n 0, 1) := by decide +kernel
theorem d_X2_widen_51 : decode b_X2_widen 51 = .ok (.iload_n 1, 1) := by decide +kernel
theorem d_X2_widen_52 : decode b_X2_widen 52 = .ok (.iconst 0, 1) := by decide +kernel
theorem d_X2_widen_53 : decode b_X2_widen 53 = .ok (.invokevirtual 68, 3) := by decide +kernel
theorem d_X2_widen_56 : decode b_X2_widen 56 = .ok (.ireturn, 1) := by decide +kernel
theorem d_X2_isRow_0 : decode b_X2_isRow 0 = .ok (.iload_n 0, 1) := by decide +kernel
theorem d_X2_isRow_1 : decode b_X2_isRow 1 = .ok (.ifCond .lt 13, 3) := by decide +kernel
theorem d_X2_isRow_4 : decode b_X2_isRow 4 = .ok (.iload_n 0, 1) := by decide +kernel
theorem d_X2_isRow_5 : decode b_X2_isRow 5 = .ok (.bipush 64, 2) := by decide +kernel
theorem d_X2_isRow_7 : decode b_X2_isRow 7 = .ok (.if_icmp .ge 7, 3) := by decide +kernel
theorem d_X2_isRow_10 : decode b_X2_isRow 10 = .ok (.iconst 1, 1) := by decide +kernel
theorem d_X2_isRow_11 : decode b_X2_isRow 11 = .ok (.goto 4, 3) := by decide +kernel
theorem d_X2_isRow_14 : decode b_X2_isRow 14 = .ok (.iconst 0, 1) := by decide +kernel
theorem d_X2_isRow_15 : decode b_X2_isRow 15 = .ok (.ireturn, 1) := by decide +kernel
theorem d_X2_refuses_0 : decode b_X2_refuses 0 = .ok (.aload_n 0, 1) := by decide +kernel
theorem d_X2_refuses_1 : decode b_X2_refuses 1 = .ok (.iload_n 1, 1) := by decide +kernel
theorem d_X2_refuses_2 : decode b_X2_refuses 2 = .ok (.putfield 23, 3) := by decide +kernel
theorem d_X2_refuses_5 : decode b_X2_refuses 5 = .ok (.iload_n 1, 1) := by decide +kernel
theorem d_X2_refuses_6 : decode b_X2_refuses 6 = .ok (.ifCond .le 7, 3) := by decide +kernel
theorem d_X2_refuses_9 : decode b_X2_refuses 9 = .ok (.iconst 1, 1) := by decide +kernel
theorem d_X2_refuses_10 : decode b_X2_refuses 10 = .ok (.goto 4, 3) := by decide +kernel
theorem d_X2_refuses_13 : decode b_X2_refuses 13 = .ok (.iconst 0, 1) := by decide +kernel
theorem d_X2_refuses_14 : decode b_X2_refuses 14 = .ok (.ireturn, 1) := by decide +kernel
theorem d_X2_load_0 : decode b_X2_load 0 = .ok (.aload_n 0, 1) := by decide +kernel
theorem d_X2_load_1 : decode b_X2_load 1 = .ok (.iload_n 1, 1) := by decide +kernel
theorem d_X2_load_2 : decode b_X2_load 2 = .ok (.invokevirtual 27, 3) := by decide +kernel
theorem d_X2_load_5 : decode b_X2_load 5 = .ok (.iconst 2, 1) := by decide +kernel
theorem d_X2_load_6 : decode b_X2_load 6 = .ok (.aload_n 0, 1) := by decide +kernel
theorem d_X2_load_7 : decode b_X2_load 7 = .ok (.getfield 7, 3) := by decide +kernel
theorem d_X2_load_10 : decode b_X2_load 10 = .ok (.iload_n 2, 1) := by decide +kernel
theorem d_X2_load_11 : decode b_X2_load 11 = .ok (.iaload, 1) := by decide +kernel
theorem d_X2_load_12 : decode b_X2_load 12 = .ok (.imul, 1) := by decide +kernel
theorem d_X2_load_13 : decode b_X2_load 13 = .ok (.istore_n 3, 1) := by decide +kernel
theorem d_X2_load_14 : decode b_X2_load 14 = .ok (.aload_n 0, 1) := by decide +kernel
theorem d_X2_load_15 : decode b_X2_load 15 = .ok (.getfield 14, 3) := by decide +kernel
theorem d_X2_load_18 : decode b_X2_load 18 = .ok (.sipush 512, 3) := by decide +kernel
theorem d_X2_load_21 : decode b_X2_load 21 = .ok (.iload_n 2, 1) := by decide +kernel
theorem d_X2_load_22 : decode b_X2_load 22 = .ok (.imul, 1) := by decide +kernel
theorem d_X2_load_23 : decode b_X2_load 23 = .ok (.iload_n 3, 1) := by decide +kernel
theorem d_X2_load_24 : decode b_X2_load 24 = .ok (.iadd, 1) := by decide +kernel
theorem d_X2_load_25 : decode b_X2_load 25 = .ok (.iconst 1, 1) := by decide +kernel
theorem d_X2_load_26 : decode b_X2_load 26 = .ok (.isub, 1) := by decide +kernel
theorem d_X2_load_27 : decode b_X2_load 27 = .ok (.iaload, 1) := by decide +kernel
theorem d_X2_load_28 : decode b_X2_load 28 = .ok (.ldc 13, 2) := by decide +kernel
theorem d_X2_load_30 : decode b_X2_load 30 = .ok (.if_icmp .lt 7, 3) := by decide +kernel
theorem d_X2_load_33 : decode b_X2_load 33 = .ok (.iconst 1, 1) := by decide +kernel
theorem d_X2_load_34 : decode b_X2_load 34 = .ok (.goto 4, 3) := by decide +kernel
theorem d_X2_load_37 : decode b_X2_load 37 = .ok (.iconst 0, 1) := by decide +kernel
theorem d_X2_load_38 : decode b_X2_load 38 = .ok (.istore 4, 2) := by decide +kernel
theorem d_X2_load_40 : decode b_X2_load 40 = .ok (.iload 4, 2) := by decide +kernel
theorem d_X2_load_42 : decode b_X2_load 42 = .ok (.ifCond .eq 7, 3) := by decide +kernel
theorem d_X2_load_45 : decode b_X2_load 45 = .ok (.iconst 1, 1) := by decide +kernel
theorem d_X2_load_46 : decode b_X2_load 46 = .ok (.goto 4, 3) := by decide +kernel
theorem d_X2_load_49 : decode b_X2_load 49 = .ok (.iconst 0, 1) := by decide +kernel
theorem d_X2_load_50 : decode b_X2_load 50 = .ok (.istore 5, 2) := by decide +kernel
theorem d_X2_load_52 : decode b_X2_load 52 = .ok (.iconst 0, 1) := by decide +kernel
theorem d_X2_load_53 : decode b_X2_load 53 = .ok (.istore 6, 2) := by decide +kernel
theorem d_X2_load_55 : decode b_X2_load 55 = .ok (.iload 6, 2) := by decide +kernel
theorem d_X2_load_57 : decode b_X2_load 57 = .ok (.iload_n 3, 1) := by decide +kernel
theorem d_X2_load_58 : decode b_X2_load 58 = .ok (.if_icmp .ge 69, 3) := by decide +kernel
theorem d_X2_load_61 : decode b_X2_load 61 = .ok (.aload_n 0, 1) := by decide +kernel
theorem d_X2_load_62 : decode b_X2_load 62 = .ok (.getfield 14, 3) := by decide +kernel
theorem d_X2_load_65 : decode b_X2_load 65 = .ok (.sipush 512, 3) := by decide +kernel
theorem d_X2_load_68 : decode b_X2_load 68 = .ok (.iload_n 2, 1) := by decide +kernel
theorem d_X2_load_69 : decode b_X2_load 69 = .ok (.imul, 1) := by decide +kernel
theorem d_X2_load_70 : decode b_X2_load 70 = .ok (.iload 6, 2) := by decide +kernel
theorem d_X2_load_72 : decode b_X2_load 72 = .ok (.iadd, 1) := by decide +kernel
theorem d_X2_load_73 : decode b_X2_load 73 = .ok (.iaload, 1) := by decide +kernel
theorem d_X2_load_74 : decode b_X2_load 74 = .ok (.istore 7, 2) := by decide +kernel
theorem d_X2_load_76 : decode b_X2_load 76 = .ok (.iload 4, 2) := by decide +kernel
theorem d_X2_load_78 : decode b_X2_load 78 = .ok (.ifCond .eq 11, 3) := by decide +kernel
theorem d_X2_load_81 : decode b_X2_load 81 = .ok (.ldc 31, 2) := by decide +kernel
theorem d_X2_load_83 : decode b_X2_load 83 = .ok (.iload 7, 2) := by decide +kernel
theorem d_X2_load_85 : decode b_X2_load 85 = .ok (.isub, 1) := by decide +kernel
theorem d_X2_load_86 : decode b_X2_load 86 = .ok (.goto 5, 3) := by decide +kernel
theorem d_X2_load_89 : decode b_X2_load 89 = .ok (.iload 7, 2) := by decide +kernel
theorem d_X2_load_91 : decode b_X2_load 91 = .ok (.iload 5, 2) := by decide +kernel
theorem d_X2_load_93 : decode b_X2_load 93 = .ok (.iadd, 1) := by decide +kernel
theorem d_X2_load_94 : decode b_X2_load 94 = .ok (.istore 7, 2) := by decide +kernel
theorem d_X2_load_96 : decode b_X2_load 96 = .ok (.iload 7, 2) := by decide +kernel
theorem d_X2_load_98 : decode b_X2_load 98 = .ok (.ldc 32, 2) := by decide +kernel
theorem d_X2_load_100 : decode b_X2_load 100 = .ok (.idiv, 1) := by decide +kernel
theorem d_X2_load_101 : decode b_X2_load 101 = .ok (.istore 5, 2) := by decide +kernel
theorem d_X2_load_103 : decode b_X2_load 103 = .ok (.aload_n 0, 1) := by decide +kernel
theorem d_X2_load_104 : decode b_X2_load 104 = .ok (.getfield 20, 3) := by decide +kernel
theorem d_X2_load_107 : decode b_X2_load 107 = .ok (.sipush 1100, 3) := by decide +kernel
theorem d_X2_load_110 : decode b_X2_load 110 = .ok (.iload_n 1, 1) := by decide +kernel
theorem d_X2_load_111 : decode b_X2_load 111 = .ok (.imul, 1) := by decide +kernel
theorem d_X2_load_112 : decode b_X2_load 112 = .ok (.iload 6, 2) := by decide +kernel
theorem d_X2_load_114 : decode b_X2_load 114 = .ok (.iadd, 1) := by decide +kernel
theorem d_X2_load_115 : decode b_X2_load 115 = .ok (.iload 7, 2) := by decide +kernel
theorem d_X2_load_117 : decode b_X2_load 117 = .ok (.ldc 32, 2) := by decide +kernel
theorem d_X2_load_119 : decode b_X2_load 119 = .ok (.irem, 1) := by decide +kernel
theorem d_X2_load_120 : decode b_X2_load 120 = .ok (.iastore, 1) := by decide +kernel
theorem d_X2_load_121 : decode b_X2_load 121 = .ok (.iinc 6 1, 3) := by decide +kernel
theorem d_X2_load_124 : decode b_X2_load 124 = .ok (.goto (-69), 3) := by decide +kernel
theorem d_X2_load_127 : decode b_X2_load 127 = .ok (.aload_n 0, 1) := by decide +kernel
theorem d_X2_load_128 : decode b_X2_load 128 = .ok (.getfield 20, 3) := by decide +kernel
theorem d_X2_load_131 : decode b_X2_load 131 = .ok (.sipush 1100, 3) := by decide +kernel
theorem d_X2_load_134 : decode b_X2_load 134 = .ok (.iload_n 1, 1) := by decide +kernel
theorem d_X2_load_135 : decode b_X2_load 135 = .ok (.imul, 1) := by decide +kernel
theorem d_X2_load_136 : decode b_X2_load 136 = .ok (.iload_n 3, 1) := by decide +kernel
theorem d_X2_load_137 : decode b_X2_load 137 = .ok (.iadd, 1) := by decide +kernel
theorem d_X2_load_138 : decode b_X2_load 138 = .ok (.iload 5, 2) := by decide +kernel
theorem d_X2_load_140 : decode b_X2_load 140 = .ok (.iastore, 1) := by decide +kernel
theorem d_X2_load_141 : decode b_X2_load 141 = .ok (.aload_n 0, 1) := by decide +kernel
theorem d_X2_load_142 : decode b_X2_load 142 = .ok (.getfield 17, 3) := by decide +kernel
theorem d_X2_load_145 : decode b_X2_load 145 = .ok (.iload_n 1, 1) := by decide +kernel
theorem d_X2_load_146 : decode b_X2_load 146 = .ok (.aload_n 0, 1) := by decide +kernel
theorem d_X2_load_147 : decode b_X2_load 147 = .ok (.iload_n 1, 1) := by decide +kernel
theorem d_X2_load_148 : decode b_X2_load 148 = .ok (.invokevirtual 33, 3) := by decide +kernel
theorem d_X2_load_151 : decode b_X2_load 151 = .ok (.ifCond .eq 7, 3) := by decide +kernel
theorem d_X2_load_154 : decode b_X2_load 154 = .ok (.iconst 0, 1) := by decide +kernel
theorem d_X2_load_155 : decode b_X2_load 155 = .ok (.goto 13, 3) := by decide +kernel
theorem d_X2_load_158 : decode b_X2_load 158 = .ok (.iload 4, 2) := by decide +kernel
theorem d_X2_load_160 : decode b_X2_load 160 = .ok (.ifCond .eq 7, 3) := by decide +kernel
theorem d_X2_load_163 : decode b_X2_load 163 = .ok (.iconst (-1), 1) := by decide +kernel
theorem d_X2_load_164 : decode b_X2_load 164 = .ok (.goto 4, 3) := by decide +kernel
theorem d_X2_load_167 : decode b_X2_load 167 = .ok (.iconst 1, 1) := by decide +kernel
theorem d_X2_load_168 : decode b_X2_load 168 = .ok (.iastore, 1) := by decide +kernel
theorem d_X2_load_169 : decode b_X2_load 169 = .ok (.return_, 1) := by decide +kernel
theorem d_X2_clear_0 : decode b_X2_clear 0 = .ok (.iconst 0, 1) := by decide +kernel
theorem d_X2_clear_1 : decode b_X2_clear 1 = .ok (.istore_n 2, 1) := by decide +kernel
theorem d_X2_clear_2 : decode b_X2_clear 2 = .ok (.iload_n 2, 1) := by decide +kernel
theorem d_X2_clear_3 : decode b_X2_clear 3 = .ok (.sipush 1100, 3) := by decide +kernel
theorem d_X2_clear_6 : decode b_X2_clear 6 = .ok (.if_icmp .ge 22, 3) := by decide +kernel
theorem d_X2_clear_9 : decode b_X2_clear 9 = .ok (.aload_n 0, 1) := by decide +kernel
theorem d_X2_clear_10 : decode b_X2_clear 10 = .ok (.getfield 20, 3) := by decide +kernel
theorem d_X2_clear_13 : decode b_X2_clear 13 = .ok (.sipush 1100, 3) := by decide +kernel
theorem d_X2_clear_16 : decode b_X2_clear 16 = .ok (.iload_n 1, 1) := by decide +kernel
theorem d_X2_clear_17 : decode b_X2_clear 17 = .ok (.imul, 1) := by decide +kernel
theorem d_X2_clear_18 : decode b_X2_clear 18 = .ok (.iload_n 2, 1) := by decide +kernel
theorem d_X2_clear_19 : decode b_X2_clear 19 = .ok (.iadd, 1) := by decide +kernel
theorem d_X2_clear_20 : decode b_X2_clear 20 = .ok (.iconst 0, 1) := by decide +kernel
theorem d_X2_clear_21 : decode b_X2_clear 21 = .ok (.iastore, 1) := by decide +kernel
theorem d_X2_clear_22 : decode b_X2_clear 22 = .ok (.iinc 2 1, 3) := by decide +kernel
theorem d_X2_clear_25 : decode b_X2_clear 25 = .ok (.goto (-23), 3) := by decide +kernel
theorem d_X2_clear_28 : decode b_X2_clear 28 = .ok (.aload_n 0, 1) := by decide +kernel
theorem d_X2_clear_29 : decode b_X2_clear 29 = .ok (.getfield 17, 3) := by decide +kernel
theorem d_X2_clear_32 : decode b_X2_clear 32 = .ok (.iload_n 1, 1) := by decide +kernel
theorem d_X2_clear_33 : decode b_X2_clear 33 = .ok (.iconst 0, 1) := by decide +kernel
theorem d_X2_clear_34 : decode b_X2_clear 34 = .ok (.iastore, 1) := by decide +kernel
theorem d_X2_clear_35 : decode b_X2_clear 35 = .ok (.return_, 1) := by decide +kernel
theorem d_X2_isZero_0 : decode b_X2_isZero 0 = .ok (.iconst 1, 1) := by decide +kernel
theorem d_X2_isZero_1 : decode b_X2_isZero 1 = .ok (.istore_n 2, 1) := by decide +kernel
theorem d_X2_isZero_2 : decode b_X2_isZero 2 = .ok (.iconst 0, 1) := by decide +kernel
theorem d_X2_isZero_3 : decode b_X2_isZero 3 = .ok (.istore_n 3, 1) := by decide +kernel
theorem d_X2_isZero_4 : decode b_X2_isZero 4 = .ok (.iload_n 3, 1) := by decide +kernel
theorem d_X2_isZero_5 : decode b_X2_isZero 5 = .ok (.sipush 1100, 3) := by decide +kernel
theorem d_X2_isZero_8 : decode b_X2_isZero 8 = .ok (.if_icmp .ge 34, 3) := by decide +kernel
theorem d_X2_isZero_11 : decode b_X2_isZero 11 = .ok (.iload_n 2, 1) := by decide +kernel
theorem d_X2_isZero_12 : decode b_X2_isZero 12 = .ok (.ifCond .eq 22, 3) := by decide +kernel
theorem d_X2_isZero_15 : decode b_X2_isZero 15 = .ok (.aload_n 0, 1) := by decide +kernel
theorem d_X2_isZero_16 : decode b_X2_isZero 16 = .ok (.getfield 20, 3) := by decide +kernel
theorem d_X2_isZero_19 : decode b_X2_isZero 19 = .ok (.sipush 1100, 3) := by decide +kernel
theorem d_X2_isZero_22 : decode b_X2_isZero 22 = .ok (.iload_n 1, 1) := by decide +kernel
theorem d_X2_isZero_23 : decode b_X2_isZero 23 = .ok (.imul, 1) := by decide +kernel
theorem d_X2_isZero_24 : decode b_X2_isZero 24 = .ok (.iload_n 3, 1) := by decide +kernel
theorem d_X2_isZero_25 : decode b_X2_isZero 25 = .ok (.iadd, 1) := by decide +kernel
theorem d_X2_isZero_26 : decode b_X2_isZero 26 = .ok (.iaload, 1) := by decide +kernel
theorem d_X2_isZero_27 : decode b_X2_isZero 27 = .ok (.ifCond .ne 7, 3) := by decide +kernel
theorem d_X2_isZero_30 : decode b_X2_isZero 30 = .ok (.iconst 1, 1) := by decide +kernel
theorem d_X2_isZero_31 : decode b_X2_isZero 31 = .ok (.goto 4, 3) := by decide +kernel
theorem d_X2_isZero_34 : decode b_X2_isZero 34 = .ok (.iconst 0, 1) := by decide +kernel
theorem d_X2_isZero_35 : decode b_X2_isZero 35 = .ok (.istore_n 2, 1) := by decide +kernel
theorem d_X2_isZero_36 : decode b_X2_isZero 36 = .ok (.iinc 3 1, 3) := by decide +kernel
theorem d_X2_isZero_39 : decode b_X2_isZero 39 = .ok (.goto (-35), 3) := by decide +kernel
theorem d_X2_isZero_42 : decode b_X2_isZero 42 = .ok (.iload_n 2, 1) := by decide +kernel
theorem d_X2_isZero_43 : decode b_X2_isZero 43 = .ok (.ireturn, 1) := by decide +kernel
theorem d_X2_store_0 : decode b_X2_store 0 = .ok (.iconst 2, 1) := by decide +kernel
theorem d_X2_store_1 : decode b_X2_store 1 = .ok (.aload_n 0, 1) := by decide +kernel
theorem d_X2_store_2 : decode b_X2_store 2 = .ok (.getfield 7, 3) := by decide +kernel
theorem d_X2_store_5 : decode b_X2_store 5 = .ok (.iload_n 1, 1) := by decide +kernel
theorem d_X2_store_6 : decode b_X2_store 6 = .ok (.iaload, 1) := by decide +kernel
theorem d_X2_store_7 : decode b_X2_store 7 = .ok (.imul, 1) := by decide +kernel
theorem d_X2_store_8 : decode b_X2_store 8 = .ok (.istore_n 3, 1) := by decide +kernel
theorem d_X2_store_9 : decode b_X2_store 9 = .ok (.aload_n 0, 1) := by decide +kernel
theorem d_X2_store_10 : decode b_X2_store 10 = .ok (.iload_n 2, 1) := by decide +kernel
theorem d_X2_store_11 : decode b_X2_store 11 = .ok (.invokevirtual 50, 3) := by decide +kernel
theorem d_X2_store_14 : decode b_X2_store 14 = .ok (.bipush 16, 2) := by decide +kernel
theorem d_X2_store_16 : decode b_X2_store 16 = .ok (.iload_n 3, 1) := by decide +kernel
theorem d_X2_store_17 : decode b_X2_store 17 = .ok (.imul, 1) := by decide +kernel
theorem d_X2_store_18 : decode b_X2_store 18 = .ok (.if_icmp .ge 7, 3) := by decide +kernel
theorem d_X2_store_21 : decode b_X2_store 21 = .ok (.iconst 1, 1) := by decide +kernel
theorem d_X2_store_22 : decode b_X2_store 22 = .ok (.goto 4, 3) := by decide +kernel
theorem d_X2_store_25 : decode b_X2_store 25 = .ok (.iconst 0, 1) := by decide +kernel
theorem d_X2_store_26 : decode b_X2_store 26 = .ok (.istore 4, 2) := by decide +kernel
theorem d_X2_store_28 : decode b_X2_store 28 = .ok (.aload_n 0, 1) := by decide +kernel
theorem d_X2_store_29 : decode b_X2_store 29 = .ok (.getfield 17, 3) := by decide +kernel
theorem d_X2_store_32 : decode b_X2_store 32 = .ok (.iload_n 2, 1) := by decide +kernel
theorem d_X2_store_33 : decode b_X2_store 33 = .ok (.iaload, 1) := by decide +kernel
theorem d_X2_store_34 : decode b_X2_store 34 = .ok (.ifCond .ge 7, 3) := by decide +kernel
theorem d_X2_store_37 : decode b_X2_store 37 = .ok (.iconst 1, 1) := by decide +kernel
theorem d_X2_store_38 : decode b_X2_store 38 = .ok (.goto 4, 3) := by decide +kernel
theorem d_X2_store_41 : decode b_X2_store 41 = .ok (.iconst 0, 1) := by decide +kernel
theorem d_X2_store_42 : decode b_X2_store 42 = .ok (.istore 5, 2) := by decide +kernel
theorem d_X2_store_44 : decode b_X2_store 44 = .ok (.iconst 0, 1) := by decide +kernel
theorem d_X2_store_45 : decode b_X2_store 45 = .ok (.istore 6, 2) := by decide +kernel
theorem d_X2_store_47 : decode b_X2_store 47 = .ok (.iload 6, 2) := by decide +kernel
theorem d_X2_store_49 : decode b_X2_store 49 = .ok (.iload_n 3, 1) := by decide +kernel
theorem d_X2_store_50 : decode b_X2_store 50 = .ok (.if_icmp .ge 73, 3) := by decide +kernel
theorem d_X2_store_53 : decode b_X2_store 53 = .ok (.aload_n 0, 1) := by decide +kernel
theorem d_X2_store_54 : decode b_X2_store 54 = .ok (.getfield 20, 3) := by decide +kernel
theorem d_X2_store_57 : decode b_X2_store 57 = .ok (.sipush 1100, 3) := by decide +kernel
theorem d_X2_store_60 : decode b_X2_store 60 = .ok (.iload_n 2, 1) := by decide +kernel
theorem d_X2_store_61 : decode b_X2_store 61 = .ok (.imul, 1) := by decide +kernel
theorem d_X2_store_62 : decode b_X2_store 62 = .ok (.iload 6, 2) := by decide +kernel
theorem d_X2_store_64 : decode b_X2_store 64 = .ok (.iadd, 1) := by decide +kernel
theorem d_X2_store_65 : decode b_X2_store 65 = .ok (.iaload, 1) := by decide +kernel
theorem d_X2_store_66 : decode b_X2_store 66 = .ok (.istore 7, 2) := by decide +kernel
theorem d_X2_store_68 : decode b_X2_store 68 = .ok (.aload_n 0, 1) := by decide +kernel
theorem d_X2_store_69 : decode b_X2_store 69 = .ok (.getfield 17, 3) := by decide +kernel
theorem d_X2_store_72 : decode b_X2_store 72 = .ok (.iload_n 2, 1) := by decide +kernel
theorem d_X2_store_73 : decode b_X2_store 73 = .ok (.iaload, 1) := by decide +kernel
theorem d_X2_store_74 : decode b_X2_store 74 = .ok (.ifCond .ge 11, 3) := by decide +kernel
theorem d_X2_store_77 : decode b_X2_store 77 = .ok (.ldc 31, 2) := by decide +kernel
theorem d_X2_store_79 : decode b_X2_store 79 = .ok (.iload 7, 2) := by decide +kernel
theorem d_X2_store_81 : decode b_X2_store 81 = .ok (.isub, 1) := by decide +kernel
theorem d_X2_store_82 : decode b_X2_store 82 = .ok (.goto 5, 3) := by decide +kernel
theorem d_X2_store_85 : decode b_X2_store 85 = .ok (.iload 7, 2) := by decide +kernel
theorem d_X2_store_87 : decode b_X2_store 87 = .ok (.iload 5, 2) := by decide +kernel
theorem d_X2_store_89 : decode b_X2_store 89 = .ok (.iadd, 1) := by decide +kernel
theorem d_X2_store_90 : decode b_X2_store 90 = .ok (.istore 7, 2) := by decide +kernel
theorem d_X2_store_92 : decode b_X2_store 92 = .ok (.iload 7, 2) := by decide +kernel
theorem d_X2_store_94 : decode b_X2_store 94 = .ok (.ldc 32, 2) := by decide +kernel
theorem d_X2_store_96 : decode b_X2_store 96 = .ok (.idiv, 1) := by decide +kernel
theorem d_X2_store_97 : decode b_X2_store 97 = .ok (.istore 5, 2) := by decide +kernel
theorem d_X2_store_99 : decode b_X2_store 99 = .ok (.aload_n 0, 1) := by decide +kernel
theorem d_X2_store_100 : decode b_X2_store 100 = .ok (.getfield 14, 3) := by decide +kernel
theorem d_X2_store_103 : decode b_X2_store 103 = .ok (.sipush 512, 3) := by decide +kernel
theorem d_X2_store_106 : decode b_X2_store 106 = .ok (.iload_n 1, 1) := by decide +kernel
theorem d_X2_store_107 : decode b_X2_store 107 = .ok (.imul, 1) := by decide +kernel
theorem d_X2_store_108 : decode b_X2_store 108 = .ok (.iload 6, 2) := by decide +kernel
theorem d_X2_store_110 : decode b_X2_store 110 = .ok (.iadd, 1) := by decide +kernel
theorem d_X2_store_111 : decode b_X2_store 111 = .ok (.iload 7, 2) := by decide +kernel
theorem d_X2_store_113 : decode b_X2_store 113 = .ok (.ldc 32, 2) := by decide +kernel
theorem d_X2_store_115 : decode b_X2_store 115 = .ok (.irem, 1) := by decide +kernel
theorem d_X2_store_116 : decode b_X2_store 116 = .ok (.iastore, 1) := by decide +kernel
theorem d_X2_store_117 : decode b_X2_store 117 = .ok (.iinc 6 1, 3) := by decide +kernel
theorem d_X2_store_120 : decode b_X2_store 120 = .ok (.goto (-73), 3) := by decide +kernel
theorem d_X2_store_123 : decode b_X2_store 123 = .ok (.iload 4, 2) := by decide +kernel
theorem d_X2_store_125 : decode b_X2_store 125 = .ok (.ireturn, 1) := by decide +kernel
theorem d_X2_lengthOf_0 : decode b_X2_lengthOf 0 = .ok (.aload_n 0, 1) := by decide +kernel
theorem d_X2_lengthOf_1 : decode b_X2_lengthOf 1 = .ok (.iload_n 1, 1) := by decide +kernel
theorem d_X2_lengthOf_2 : decode b_X2_lengthOf 2 = .ok (.invokevirtual 43, 3) := by decide +kernel
theorem d_X2_lengthOf_5 : decode b_X2_lengthOf 5 = .ok (.istore_n 2, 1) := by decide +kernel
theorem d_X2_lengthOf_6 : decode b_X2_lengthOf 6 = .ok (.aload_n 0, 1) := by decide +kernel
theorem d_X2_lengthOf_7 : decode b_X2_lengthOf 7 = .ok (.getfield 17, 3) := by decide +kernel
theorem d_X2_lengthOf_10 : decode b_X2_lengthOf 10 = .ok (.iload_n 1, 1) := by decide +kernel
theorem d_X2_lengthOf_11 : decode b_X2_lengthOf 11 = .ok (.iaload, 1) := by decide +kernel
theorem d_X2_lengthOf_12 : decode b_X2_lengthOf 12 = .ok (.ifCond .ge 20, 3) := by decide +kernel
theorem d_X2_lengthOf_15 : decode b_X2_lengthOf 15 = .ok (.aload_n 0, 1) := by decide +kernel
theorem d_X2_lengthOf_16 : decode b_X2_lengthOf 16 = .ok (.iload_n 1, 1) := by decide +kernel
theorem d_X2_lengthOf_17 : decode b_X2_lengthOf 17 = .ok (.invokevirtual 47, 3) := by decide +kernel
theorem d_X2_lengthOf_20 : decode b_X2_lengthOf 20 = .ok (.iload_n 2, 1) := by decide +kernel
theorem d_X2_lengthOf_21 : decode b_X2_lengthOf 21 = .ok (.iconst 1, 1) := by decide +kernel
theorem d_X2_lengthOf_22 : decode b_X2_lengthOf 22 = .ok (.isub, 1) := by decide +kernel
theorem d_X2_lengthOf_23 : decode b_X2_lengthOf 23 = .ok (.if_icmp .ne 9, 3) := by decide +kernel
theorem d_X2_lengthOf_26 : decode b_X2_lengthOf 26 = .ok (.iload_n 2, 1) := by decide +kernel
theorem d_X2_lengthOf_27 : decode b_X2_lengthOf 27 = .ok (.iconst 1, 1) := by decide +kernel
theorem d_X2_lengthOf_28 : decode b_X2_lengthOf 28 = .ok (.isub, 1) := by decide +kernel
theorem d_X2_lengthOf_29 : decode b_X2_lengthOf 29 = .ok (.goto 4, 3) := by decide +kernel
theorem d_X2_lengthOf_32 : decode b_X2_lengthOf 32 = .ok (.iload_n 2, 1) := by decide +kernel
theorem d_X2_lengthOf_33 : decode b_X2_lengthOf 33 = .ok (.ireturn, 1) := by decide +kernel
theorem d_X2_bits_0 : decode b_X2_bits 0 = .ok (.sipush 1099, 3) := by decide +kernel
theorem d_X2_bits_3 : decode b_X2_bits 3 = .ok (.istore_n 2, 1) := by decide +kernel
theorem d_X2_bits_4 : decode b_X2_bits 4 = .ok (.iload_n 2, 1) := by decide +kernel
theorem d_X2_bits_5 : decode b_X2_bits 5 = .ok (.ifCond .lt 24, 3) := by decide +kernel
theorem d_X2_bits_8 : decode b_X2_bits 8 = .ok (.aload_n 0, 1) := by decide +kernel
theorem d_X2_bits_9 : decode b_X2_bits 9 = .ok (.getfield 20, 3) := by decide +kernel
theorem d_X2_bits_12 : decode b_X2_bits 12 = .ok (.sipush 1100, 3) := by decide +kernel
theorem d_X2_bits_15 : decode b_X2_bits 15 = .ok (.iload_n 1, 1) := by decide +kernel
theorem d_X2_bits_16 : decode b_X2_bits 16 = .ok (.imul, 1) := by decide +kernel
theorem d_X2_bits_17 : decode b_X2_bits 17 = .ok (.iload_n 2, 1) := by decide +kernel
theorem d_X2_bits_18 : decode b_X2_bits 18 = .ok (.iadd, 1) := by decide +kernel
theorem d_X2_bits_19 : decode b_X2_bits 19 = .ok (.iaload, 1) := by decide +kernel
theorem d_X2_bits_20 : decode b_X2_bits 20 = .ok (.ifCond .ne 9, 3) := by decide +kernel
theorem d_X2_bits_23 : decode b_X2_bits 23 = .ok (.iinc 2 (-1), 3) := by decide +kernel
theorem d_X2_bits_26 : decode b_X2_bits 26 = .ok (.goto (-22), 3) := by decide +kernel
theorem d_X2_bits_29 : decode b_X2_bits 29 = .ok (.iconst 0, 1) := by decide +kernel
theorem d_X2_bits_30 : decode b_X2_bits 30 = .ok (.istore_n 3, 1) := by decide +kernel
theorem d_X2_bits_31 : decode b_X2_bits 31 = .ok (.iload_n 2, 1) := by decide +kernel
theorem d_X2_bits_32 : decode b_X2_bits 32 = .ok (.ifCond .lt 26, 3) := by decide +kernel
theorem d_X2_bits_35 : decode b_X2_bits 35 = .ok (.aload_n 0, 1) := by decide +kernel
theorem d_X2_bits_36 : decode b_X2_bits 36 = .ok (.getfield 20, 3) := by decide +kernel
theorem d_X2_bits_39 : decode b_X2_bits 39 = .ok (.sipush 1100, 3) := by decide +kernel
theorem d_X2_bits_42 : decode b_X2_bits 42 = .ok (.iload_n 1, 1) := by decide +kernel
theorem d_X2_bits_43 : decode b_X2_bits 43 = .ok (.imul, 1) := by decide +kernel
theorem d_X2_bits_44 : decode b_X2_bits 44 = .ok (.iload_n 2, 1) := by decide +kernel
theorem d_X2_bits_45 : decode b_X2_bits 45 = .ok (.iadd, 1) := by decide +kernel
theorem d_X2_bits_46 : decode b_X2_bits 46 = .ok (.iaload, 1) := by decide +kernel
theorem d_X2_bits_47 : decode b_X2_bits 47 = .ok (.iload_n 3, 1) := by decide +kernel
theorem d_X2_bits_48 : decode b_X2_bits 48 = .ok (.ishr, 1) := by decide +kernel
theorem d_X2_bits_49 : decode b_X2_bits 49 = .ok (.ifCond .le 9, 3) := by decide +kernel
theorem d_X2_bits_52 : decode b_X2_bits 52 = .ok (.iinc 3 1, 3) := by decide +kernel
theorem d_X2_bits_55 : decode b_X2_bits 55 = .ok (.goto (-24), 3) := by decide +kernel
theorem d_X2_bits_58 : decode b_X2_bits 58 = .ok (.iload_n 2, 1) := by decide +kernel
theorem d_X2_bits_59 : decode b_X2_bits 59 = .ok (.ifCond .ge 7, 3) := by decide +kernel
theorem d_X2_bits_62 : decode b_X2_bits 62 = .ok (.iconst 0, 1) := by decide +kernel
theorem d_X2_bits_63 : decode b_X2_bits 63 = .ok (.goto 9, 3) := by decide +kernel
theorem d_X2_bits_66 : decode b_X2_bits 66 = .ok (.bipush 16, 2) := by decide +kernel
theorem d_X2_bits_68 : decode b_X2_bits 68 = .ok (.iload_n 2, 1) := by decide +kernel
theorem d_X2_bits_69 : decode b_X2_bits 69 = .ok (.imul, 1) := by decide +kernel
theorem d_X2_bits_70 : decode b_X2_bits 70 = .ok (.iload_n 3, 1) := by decide +kernel
theorem d_X2_bits_71 : decode b_X2_bits 71 = .ok (.iadd, 1) := by decide +kernel
theorem d_X2_bits_72 : decode b_X2_bits 72 = .ok (.ireturn, 1) := by decide +kernel
theorem d_X2_zerosOf_0 : decode b_X2_zerosOf 0 = .ok (.iconst 0, 1) := by decide +kernel
theorem d_X2_zerosOf_1 : decode b_X2_zerosOf 1 = .ok (.istore_n 2, 1) := by decide +kernel
theorem d_X2_zerosOf_2 : decode b_X2_zerosOf 2 = .ok (.aload_n 0, 1) := by decide +kernel
theorem d_X2_zerosOf_3 : decode b_X2_zerosOf 3 = .ok (.iload_n 1, 1) := by decide +kernel
theorem d_X2_zerosOf_4 : decode b_X2_zerosOf 4 = .ok (.iload_n 2, 1) := by decide +kernel
theorem d_X2_zerosOf_5 : decode b_X2_zerosOf 5 = .ok (.invokevirtual 39, 3) := by decide +kernel
theorem d_X2_zerosOf_8 : decode b_X2_zerosOf 8 = .ok (.ifCond .ne 9, 3) := by decide +kernel
theorem d_X2_zerosOf_11 : decode b_X2_zerosOf 11 = .ok (.iinc 2 1, 3) := by decide +kernel
theorem d_X2_zerosOf_14 : decode b_X2_zerosOf 14 = .ok (.goto (-12), 3) := by decide +kernel
theorem d_X2_zerosOf_17 : decode b_X2_zerosOf 17 = .ok (.iload_n 2, 1) := by decide +kernel
theorem d_X2_zerosOf_18 : decode b_X2_zerosOf 18 = .ok (.ireturn, 1) := by decide +kernel
theorem d_X2_bit_0 : decode b_X2_bit 0 = .ok (.aload_n 0, 1) := by decide +kernel
theorem d_X2_bit_1 : decode b_X2_bit 1 = .ok (.getfield 20, 3) := by decide +kernel
theorem d_X2_bit_4 : decode b_X2_bit 4 = .ok (.sipush 1100, 3) := by decide +kernel
theorem d_X2_bit_7 : decode b_X2_bit 7 = .ok (.iload_n 1, 1) := by decide +kernel
theorem d_X2_bit_8 : decode b_X2_bit 8 = .ok (.imul, 1) := by decide +kernel
theorem d_X2_bit_9 : decode b_X2_bit 9 = .ok (.iload_n 2, 1) := by decide +kernel
theorem d_X2_bit_10 : decode b_X2_bit 10 = .ok (.bipush 16, 2) := by decide +kernel
theorem d_X2_bit_12 : decode b_X2_bit 12 = .ok (.idiv, 1) := by decide +kernel
theorem d_X2_bit_13 : decode b_X2_bit 13 = .ok (.iadd, 1) := by decide +kernel
theorem d_X2_bit_14 : decode b_X2_bit 14 = .ok (.iaload, 1) := by decide +kernel
theorem d_X2_bit_15 : decode b_X2_bit 15 = .ok (.iload_n 2, 1) := by decide +kernel
theorem d_X2_bit_16 : decode b_X2_bit 16 = .ok (.bipush 16, 2) := by decide +kernel
theorem d_X2_bit_18 : decode b_X2_bit 18 = .ok (.irem, 1) := by decide +kernel
theorem d_X2_bit_19 : decode b_X2_bit 19 = .ok (.ishr, 1) := by decide +kernel
theorem d_X2_bit_20 : decode b_X2_bit 20 = .ok (.iconst 1, 1) := by decide +kernel
theorem d_X2_bit_21 : decode b_X2_bit 21 = .ok (.iand, 1) := by decide +kernel
theorem d_X2_bit_22 : decode b_X2_bit 22 = .ok (.ireturn, 1) := by decide +kernel
theorem d_X2_width_0 : decode b_X2_width 0 = .ok (.aload_n 0, 1) := by decide +kernel
theorem d_X2_width_1 : decode b_X2_width 1 = .ok (.iload_n 1, 1) := by decide +kernel
theorem d_X2_width_2 : decode b_X2_width 2 = .ok (.invokestatic 62, 3) := by decide +kernel
theorem d_X2_width_5 : decode b_X2_width 5 = .ok (.ifCond .eq 7, 3) := by decide +kernel
theorem d_X2_width_8 : decode b_X2_width 8 = .ok (.iconst 0, 1) := by decide +kernel
theorem d_X2_width_9 : decode b_X2_width 9 = .ok (.goto 4, 3) := by decide +kernel
theorem d_X2_width_12 : decode b_X2_width 12 = .ok (.iconst 1, 1) := by decide +kernel
theorem d_X2_width_13 : decode b_X2_width 13 = .ok (.invokevirtual 65, 3) := by decide +kernel
theorem d_X2_width_16 : decode b_X2_width 16 = .ok (.ifCond .eq 7, 3) := by decide +kernel
theorem d_X2_width_19 : decode b_X2_width 19 = .ok (.iconst 0, 1) := by decide +kernel
theorem d_X2_width_20 : decode b_X2_width 20 = .ok (.goto 9, 3) := by decide +kernel
theorem d_X2_width_23 : decode b_X2_width 23 = .ok (.aload_n 0, 1) := by decide +kernel
theorem d_X2_width_24 : decode b_X2_width 24 = .ok (.getfield 7, 3) := by decide +kernel
theorem d_X2_width_27 : decode b_X2_width 27 = .ok (.iload_n 1, 1) := by decide +kernel
theorem d_X2_width_28 : decode b_X2_width 28 = .ok (.iaload, 1) := by decide +kernel
theorem d_X2_width_29 : decode b_X2_width 29 = .ok (.ireturn, 1) := by decide +kernel
theorem d_X2_set_0 : decode b_X2_set 0 = .ok (.aload_n 0, 1) := by decide +kernel
theorem d_X2_set_1 : decode b_X2_set 1 = .ok (.iload_n 1, 1) := by decide +kernel
theorem d_X2_set_2 : decode b_X2_set 2 = .ok (.invokestatic 62, 3) := by decide +kernel
theorem d_X2_set_5 : decode b_X2_set 5 = .ok (.ifCond .eq 7, 3) := by decide +kernel
theorem d_X2_set_8 : decode b_X2_set 8 = .ok (.iconst 0, 1) := by decide +kernel
theorem d_X2_set_9 : decode b_X2_set 9 = .ok (.goto 4, 3) := by decide +kernel
theorem d_X2_set_12 : decode b_X2_set 12 = .ok (.iconst 1, 1) := by decide +kernel
theorem d_X2_set_13 : decode b_X2_set 13 = .ok (.invokevirtual 65, 3) := by decide +kernel
