/-! DECODE ROWS, by program out of the listing -/
theorem d_Ch_init_0 : decode I_Ch_init.2.1 0 = .ok (.aload_n 0, 1) := by decide +kernel
theorem d_Ch_init_1 : decode I_Ch_init.2.1 1 = .ok (.invokespecial 3, 3) := by decide +kernel
theorem d_Ch_init_4 : decode I_Ch_init.2.1 4 = .ok (.aload_n 0, 1) := by decide +kernel
theorem d_Ch_init_5 : decode I_Ch_init.2.1 5 = .ok (.aload_n 1, 1) := by decide +kernel
theorem d_Ch_init_6 : decode I_Ch_init.2.1 6 = .ok (.putfield 9, 3) := by decide +kernel
theorem d_Ch_init_9 : decode I_Ch_init.2.1 9 = .ok (.return_, 1) := by decide +kernel
theorem d_Ch_ask_0 : decode I_Ch_ask.2.1 0 = .ok (.aload_n 0, 1) := by decide +kernel
theorem d_Ch_ask_1 : decode I_Ch_ask.2.1 1 = .ok (.iload_n 1, 1) := by decide +kernel
theorem d_Ch_ask_2 : decode I_Ch_ask.2.1 2 = .ok (.putfield 15, 3) := by decide +kernel
theorem d_Ch_ask_5 : decode I_Ch_ask.2.1 5 = .ok (.aload_n 0, 1) := by decide +kernel
theorem d_Ch_ask_6 : decode I_Ch_ask.2.1 6 = .ok (.iload_n 2, 1) := by decide +kernel
theorem d_Ch_ask_7 : decode I_Ch_ask.2.1 7 = .ok (.putfield 19, 3) := by decide +kernel
theorem d_Ch_ask_10 : decode I_Ch_ask.2.1 10 = .ok (.aload_n 0, 1) := by decide +kernel
theorem d_Ch_ask_11 : decode I_Ch_ask.2.1 11 = .ok (.iload_n 3, 1) := by decide +kernel
theorem d_Ch_ask_12 : decode I_Ch_ask.2.1 12 = .ok (.putfield 22, 3) := by decide +kernel
theorem d_Ch_ask_15 : decode I_Ch_ask.2.1 15 = .ok (.return_, 1) := by decide +kernel
theorem d_Ch_weigh_0 : decode I_Ch_weigh.2.1 0 = .ok (.aload_n 0, 1) := by decide +kernel
theorem d_Ch_weigh_1 : decode I_Ch_weigh.2.1 1 = .ok (.iload_n 2, 1) := by decide +kernel
theorem d_Ch_weigh_2 : decode I_Ch_weigh.2.1 2 = .ok (.putfield 25, 3) := by decide +kernel
theorem d_Ch_weigh_5 : decode I_Ch_weigh.2.1 5 = .ok (.aload_n 0, 1) := by decide +kernel
theorem d_Ch_weigh_6 : decode I_Ch_weigh.2.1 6 = .ok (.iload_n 3, 1) := by decide +kernel
theorem d_Ch_weigh_7 : decode I_Ch_weigh.2.1 7 = .ok (.putfield 28, 3) := by decide +kernel
theorem d_Ch_weigh_10 : decode I_Ch_weigh.2.1 10 = .ok (.aload_n 0, 1) := by decide +kernel
theorem d_Ch_weigh_11 : decode I_Ch_weigh.2.1 11 = .ok (.getfield 9, 3) := by decide +kernel
theorem d_Ch_weigh_14 : decode I_Ch_weigh.2.1 14 = .ok (.getfield 31, 3) := by decide +kernel
theorem d_Ch_weigh_17 : decode I_Ch_weigh.2.1 17 = .ok (.iconst 0, 1) := by decide +kernel
theorem d_Ch_weigh_18 : decode I_Ch_weigh.2.1 18 = .ok (.aaload, 1) := by decide +kernel
theorem d_Ch_weigh_19 : decode I_Ch_weigh.2.1 19 = .ok (.aload_n 1, 1) := by decide +kernel
theorem d_Ch_weigh_20 : decode I_Ch_weigh.2.1 20 = .ok (.iconst (-1), 1) := by decide +kernel
theorem d_Ch_weigh_21 : decode I_Ch_weigh.2.1 21 = .ok (.invokevirtual 37, 3) := by decide +kernel
theorem d_Ch_weigh_24 : decode I_Ch_weigh.2.1 24 = .ok (.aload_n 0, 1) := by decide +kernel
theorem d_Ch_weigh_25 : decode I_Ch_weigh.2.1 25 = .ok (.iconst 0, 1) := by decide +kernel
theorem d_Ch_weigh_26 : decode I_Ch_weigh.2.1 26 = .ok (.invokestatic 43, 3) := by decide +kernel
theorem d_Ch_weigh_29 : decode I_Ch_weigh.2.1 29 = .ok (.lreturn, 1) := by decide +kernel
theorem d_Ch_weighFrom_0 : decode I_Ch_weighFrom.2.1 0 = .ok (.aload_n 0, 1) := by decide +kernel
theorem d_Ch_weighFrom_1 : decode I_Ch_weighFrom.2.1 1 = .ok (.getfield 9, 3) := by decide +kernel
theorem d_Ch_weighFrom_4 : decode I_Ch_weighFrom.2.1 4 = .ok (.astore_n 2, 1) := by decide +kernel
theorem d_Ch_weighFrom_5 : decode I_Ch_weighFrom.2.1 5 = .ok (.aload_n 2, 1) := by decide +kernel
theorem d_Ch_weighFrom_6 : decode I_Ch_weighFrom.2.1 6 = .ok (.getfield 31, 3) := by decide +kernel
theorem d_Ch_weighFrom_9 : decode I_Ch_weighFrom.2.1 9 = .ok (.iload_n 1, 1) := by decide +kernel
theorem d_Ch_weighFrom_10 : decode I_Ch_weighFrom.2.1 10 = .ok (.aaload, 1) := by decide +kernel
theorem d_Ch_weighFrom_11 : decode I_Ch_weighFrom.2.1 11 = .ok (.astore_n 3, 1) := by decide +kernel
theorem d_Ch_weighFrom_12 : decode I_Ch_weighFrom.2.1 12 = .ok (.iload_n 1, 1) := by decide +kernel
theorem d_Ch_weighFrom_13 : decode I_Ch_weighFrom.2.1 13 = .ok (.aload_n 0, 1) := by decide +kernel
theorem d_Ch_weighFrom_14 : decode I_Ch_weighFrom.2.1 14 = .ok (.getfield 22, 3) := by decide +kernel
theorem d_Ch_weighFrom_17 : decode I_Ch_weighFrom.2.1 17 = .ok (.if_icmp .le 20, 3) := by decide +kernel
theorem d_Ch_weighFrom_20 : decode I_Ch_weighFrom.2.1 20 = .ok (.aload_n 3, 1) := by decide +kernel
theorem d_Ch_weighFrom_21 : decode I_Ch_weighFrom.2.1 21 = .ok (.getfield 47, 3) := by decide +kernel
theorem d_Ch_weighFrom_24 : decode I_Ch_weighFrom.2.1 24 = .ok (.aload_n 0, 1) := by decide +kernel
theorem d_Ch_weighFrom_25 : decode I_Ch_weighFrom.2.1 25 = .ok (.getfield 19, 3) := by decide +kernel
theorem d_Ch_weighFrom_28 : decode I_Ch_weighFrom.2.1 28 = .ok (.if_icmp .ne 7, 3) := by decide +kernel
theorem d_Ch_weighFrom_31 : decode I_Ch_weighFrom.2.1 31 = .ok (.lconst 1, 1) := by decide +kernel
theorem d_Ch_weighFrom_32 : decode I_Ch_weighFrom.2.1 32 = .ok (.goto 4, 3) := by decide +kernel
theorem d_Ch_weighFrom_35 : decode I_Ch_weighFrom.2.1 35 = .ok (.lconst 0, 1) := by decide +kernel
theorem d_Ch_weighFrom_36 : decode I_Ch_weighFrom.2.1 36 = .ok (.lreturn, 1) := by decide +kernel
theorem d_Ch_weighFrom_37 : decode I_Ch_weighFrom.2.1 37 = .ok (.aload_n 2, 1) := by decide +kernel
theorem d_Ch_weighFrom_38 : decode I_Ch_weighFrom.2.1 38 = .ok (.getfield 31, 3) := by decide +kernel
theorem d_Ch_weighFrom_41 : decode I_Ch_weighFrom.2.1 41 = .ok (.iload_n 1, 1) := by decide +kernel
theorem d_Ch_weighFrom_42 : decode I_Ch_weighFrom.2.1 42 = .ok (.iconst 1, 1) := by decide +kernel
theorem d_Ch_weighFrom_43 : decode I_Ch_weighFrom.2.1 43 = .ok (.iadd, 1) := by decide +kernel
theorem d_Ch_weighFrom_44 : decode I_Ch_weighFrom.2.1 44 = .ok (.aaload, 1) := by decide +kernel
theorem d_Ch_weighFrom_45 : decode I_Ch_weighFrom.2.1 45 = .ok (.astore 4, 2) := by decide +kernel
theorem d_Ch_weighFrom_47 : decode I_Ch_weighFrom.2.1 47 = .ok (.iload_n 1, 1) := by decide +kernel
theorem d_Ch_weighFrom_48 : decode I_Ch_weighFrom.2.1 48 = .ok (.aload_n 0, 1) := by decide +kernel
theorem d_Ch_weighFrom_49 : decode I_Ch_weighFrom.2.1 49 = .ok (.getfield 25, 3) := by decide +kernel
theorem d_Ch_weighFrom_52 : decode I_Ch_weighFrom.2.1 52 = .ok (.if_icmp .eq 11, 3) := by decide +kernel
theorem d_Ch_weighFrom_55 : decode I_Ch_weighFrom.2.1 55 = .ok (.aload_n 2, 1) := by decide +kernel
theorem d_Ch_weighFrom_56 : decode I_Ch_weighFrom.2.1 56 = .ok (.iload_n 1, 1) := by decide +kernel
theorem d_Ch_weighFrom_57 : decode I_Ch_weighFrom.2.1 57 = .ok (.invokevirtual 50, 3) := by decide +kernel
theorem d_Ch_weighFrom_60 : decode I_Ch_weighFrom.2.1 60 = .ok (.ifCond .le 7, 3) := by decide +kernel
theorem d_Ch_weighFrom_63 : decode I_Ch_weighFrom.2.1 63 = .ok (.iconst 1, 1) := by decide +kernel
theorem d_Ch_weighFrom_64 : decode I_Ch_weighFrom.2.1 64 = .ok (.goto 4, 3) := by decide +kernel
theorem d_Ch_weighFrom_67 : decode I_Ch_weighFrom.2.1 67 = .ok (.iconst 0, 1) := by decide +kernel
theorem d_Ch_weighFrom_68 : decode I_Ch_weighFrom.2.1 68 = .ok (.istore 5, 2) := by decide +kernel
theorem d_Ch_weighFrom_70 : decode I_Ch_weighFrom.2.1 70 = .ok (.iload 5, 2) := by decide +kernel
theorem d_Ch_weighFrom_72 : decode I_Ch_weighFrom.2.1 72 = .ok (.ifCond .eq 10, 3) := by decide +kernel
theorem d_Ch_weighFrom_75 : decode I_Ch_weighFrom.2.1 75 = .ok (.aload_n 0, 1) := by decide +kernel
theorem d_Ch_weighFrom_76 : decode I_Ch_weighFrom.2.1 76 = .ok (.getfield 15, 3) := by decide +kernel
theorem d_Ch_weighFrom_79 : decode I_Ch_weighFrom.2.1 79 = .ok (.goto 5, 3) := by decide +kernel
theorem d_Ch_weighFrom_82 : decode I_Ch_weighFrom.2.1 82 = .ok (.bipush 16, 2) := by decide +kernel
theorem d_Ch_weighFrom_84 : decode I_Ch_weighFrom.2.1 84 = .ok (.istore 6, 2) := by decide +kernel
theorem d_Ch_weighFrom_86 : decode I_Ch_weighFrom.2.1 86 = .ok (.lconst 0, 1) := by decide +kernel
theorem d_Ch_weighFrom_87 : decode I_Ch_weighFrom.2.1 87 = .ok (.lstore 7, 2) := by decide +kernel
theorem d_Ch_weighFrom_89 : decode I_Ch_weighFrom.2.1 89 = .ok (.iload 6, 2) := by decide +kernel
theorem d_Ch_weighFrom_91 : decode I_Ch_weighFrom.2.1 91 = .ok (.ifCond .le 31, 3) := by decide +kernel
theorem d_Ch_weighFrom_94 : decode I_Ch_weighFrom.2.1 94 = .ok (.aload 4, 2) := by decide +kernel
theorem d_Ch_weighFrom_96 : decode I_Ch_weighFrom.2.1 96 = .ok (.aload_n 3, 1) := by decide +kernel
theorem d_Ch_weighFrom_97 : decode I_Ch_weighFrom.2.1 97 = .ok (.invokevirtual 54, 3) := by decide +kernel
theorem d_Ch_weighFrom_100 : decode I_Ch_weighFrom.2.1 100 = .ok (.aload_n 2, 1) := by decide +kernel
theorem d_Ch_weighFrom_101 : decode I_Ch_weighFrom.2.1 101 = .ok (.aload 4, 2) := by decide +kernel
theorem d_Ch_weighFrom_103 : decode I_Ch_weighFrom.2.1 103 = .ok (.invokevirtual 58, 3) := by decide +kernel
theorem d_Ch_weighFrom_106 : decode I_Ch_weighFrom.2.1 106 = .ok (.lload 7, 2) := by decide +kernel
theorem d_Ch_weighFrom_108 : decode I_Ch_weighFrom.2.1 108 = .ok (.iload 6, 2) := by decide +kernel
theorem d_Ch_weighFrom_110 : decode I_Ch_weighFrom.2.1 110 = .ok (.i2l, 1) := by decide +kernel
theorem d_Ch_weighFrom_111 : decode I_Ch_weighFrom.2.1 111 = .ok (.aload_n 0, 1) := by decide +kernel
theorem d_Ch_weighFrom_112 : decode I_Ch_weighFrom.2.1 112 = .ok (.iload_n 1, 1) := by decide +kernel
theorem d_Ch_weighFrom_113 : decode I_Ch_weighFrom.2.1 113 = .ok (.iconst 1, 1) := by decide +kernel
theorem d_Ch_weighFrom_114 : decode I_Ch_weighFrom.2.1 114 = .ok (.iadd, 1) := by decide +kernel
theorem d_Ch_weighFrom_115 : decode I_Ch_weighFrom.2.1 115 = .ok (.invokestatic 43, 3) := by decide +kernel
theorem d_Ch_weighFrom_118 : decode I_Ch_weighFrom.2.1 118 = .ok (.lmul, 1) := by decide +kernel
theorem d_Ch_weighFrom_119 : decode I_Ch_weighFrom.2.1 119 = .ok (.ladd, 1) := by decide +kernel
theorem d_Ch_weighFrom_120 : decode I_Ch_weighFrom.2.1 120 = .ok (.lstore 7, 2) := by decide +kernel
theorem d_Ch_weighFrom_122 : decode I_Ch_weighFrom.2.1 122 = .ok (.iload 6, 2) := by decide +kernel
theorem d_Ch_weighFrom_124 : decode I_Ch_weighFrom.2.1 124 = .ok (.bipush 16, 2) := by decide +kernel
theorem d_Ch_weighFrom_126 : decode I_Ch_weighFrom.2.1 126 = .ok (.if_icmp .ge 64, 3) := by decide +kernel
theorem d_Ch_weighFrom_129 : decode I_Ch_weighFrom.2.1 129 = .ok (.aload 4, 2) := by decide +kernel
theorem d_Ch_weighFrom_131 : decode I_Ch_weighFrom.2.1 131 = .ok (.aload_n 3, 1) := by decide +kernel
theorem d_Ch_weighFrom_132 : decode I_Ch_weighFrom.2.1 132 = .ok (.invokevirtual 54, 3) := by decide +kernel
theorem d_Ch_weighFrom_135 : decode I_Ch_weighFrom.2.1 135 = .ok (.aload_n 2, 1) := by decide +kernel
theorem d_Ch_weighFrom_136 : decode I_Ch_weighFrom.2.1 136 = .ok (.aload 4, 2) := by decide +kernel
theorem d_Ch_weighFrom_138 : decode I_Ch_weighFrom.2.1 138 = .ok (.iload_n 1, 1) := by decide +kernel
theorem d_Ch_weighFrom_139 : decode I_Ch_weighFrom.2.1 139 = .ok (.invokevirtual 61, 3) := by decide +kernel
theorem d_Ch_weighFrom_142 : decode I_Ch_weighFrom.2.1 142 = .ok (.iload_n 1, 1) := by decide +kernel
theorem d_Ch_weighFrom_143 : decode I_Ch_weighFrom.2.1 143 = .ok (.aload_n 0, 1) := by decide +kernel
theorem d_Ch_weighFrom_144 : decode I_Ch_weighFrom.2.1 144 = .ok (.getfield 25, 3) := by decide +kernel
theorem d_Ch_weighFrom_147 : decode I_Ch_weighFrom.2.1 147 = .ok (.if_icmp .ne 18, 3) := by decide +kernel
theorem d_Ch_weighFrom_150 : decode I_Ch_weighFrom.2.1 150 = .ok (.aload_n 2, 1) := by decide +kernel
theorem d_Ch_weighFrom_151 : decode I_Ch_weighFrom.2.1 151 = .ok (.aload 4, 2) := by decide +kernel
theorem d_Ch_weighFrom_153 : decode I_Ch_weighFrom.2.1 153 = .ok (.iload_n 1, 1) := by decide +kernel
theorem d_Ch_weighFrom_154 : decode I_Ch_weighFrom.2.1 154 = .ok (.aload_n 0, 1) := by decide +kernel
theorem d_Ch_weighFrom_155 : decode I_Ch_weighFrom.2.1 155 = .ok (.getfield 19, 3) := by decide +kernel
theorem d_Ch_weighFrom_158 : decode I_Ch_weighFrom.2.1 158 = .ok (.aload_n 0, 1) := by decide +kernel
theorem d_Ch_weighFrom_159 : decode I_Ch_weighFrom.2.1 159 = .ok (.getfield 28, 3) := by decide +kernel
theorem d_Ch_weighFrom_162 : decode I_Ch_weighFrom.2.1 162 = .ok (.invokevirtual 65, 3) := by decide +kernel
theorem d_Ch_weighFrom_165 : decode I_Ch_weighFrom.2.1 165 = .ok (.aload_n 2, 1) := by decide +kernel
theorem d_Ch_weighFrom_166 : decode I_Ch_weighFrom.2.1 166 = .ok (.aload 4, 2) := by decide +kernel
theorem d_Ch_weighFrom_168 : decode I_Ch_weighFrom.2.1 168 = .ok (.invokevirtual 58, 3) := by decide +kernel
theorem d_Ch_weighFrom_171 : decode I_Ch_weighFrom.2.1 171 = .ok (.lload 7, 2) := by decide +kernel
theorem d_Ch_weighFrom_173 : decode I_Ch_weighFrom.2.1 173 = .ok (.bipush 16, 2) := by decide +kernel
theorem d_Ch_weighFrom_175 : decode I_Ch_weighFrom.2.1 175 = .ok (.iload 6, 2) := by decide +kernel
theorem d_Ch_weighFrom_177 : decode I_Ch_weighFrom.2.1 177 = .ok (.isub, 1) := by decide +kernel
theorem d_Ch_weighFrom_178 : decode I_Ch_weighFrom.2.1 178 = .ok (.i2l, 1) := by decide +kernel
theorem d_Ch_weighFrom_179 : decode I_Ch_weighFrom.2.1 179 = .ok (.aload_n 0, 1) := by decide +kernel
theorem d_Ch_weighFrom_180 : decode I_Ch_weighFrom.2.1 180 = .ok (.iload_n 1, 1) := by decide +kernel
theorem d_Ch_weighFrom_181 : decode I_Ch_weighFrom.2.1 181 = .ok (.iconst 1, 1) := by decide +kernel
theorem d_Ch_weighFrom_182 : decode I_Ch_weighFrom.2.1 182 = .ok (.iadd, 1) := by decide +kernel
theorem d_Ch_weighFrom_183 : decode I_Ch_weighFrom.2.1 183 = .ok (.invokestatic 43, 3) := by decide +kernel
theorem d_Ch_weighFrom_186 : decode I_Ch_weighFrom.2.1 186 = .ok (.lmul, 1) := by decide +kernel
theorem d_Ch_weighFrom_187 : decode I_Ch_weighFrom.2.1 187 = .ok (.ladd, 1) := by decide +kernel
theorem d_Ch_weighFrom_188 : decode I_Ch_weighFrom.2.1 188 = .ok (.lstore 7, 2) := by decide +kernel
theorem d_Ch_weighFrom_190 : decode I_Ch_weighFrom.2.1 190 = .ok (.lload 7, 2) := by decide +kernel
theorem d_Ch_weighFrom_192 : decode I_Ch_weighFrom.2.1 192 = .ok (.lreturn, 1) := by decide +kernel
theorem d_Co_init_0 : decode I_Co_init.2.1 0 = .ok (.aload_n 0, 1) := by decide +kernel
theorem d_Co_init_1 : decode I_Co_init.2.1 1 = .ok (.invokespecial 3, 3) := by decide +kernel
theorem d_Co_init_4 : decode I_Co_init.2.1 4 = .ok (.aload_n 0, 1) := by decide +kernel
theorem d_Co_init_5 : decode I_Co_init.2.1 5 = .ok (.aload_n 1, 1) := by decide +kernel
theorem d_Co_init_6 : decode I_Co_init.2.1 6 = .ok (.putfield 9, 3) := by decide +kernel
theorem d_Co_init_9 : decode I_Co_init.2.1 9 = .ok (.aload_n 0, 1) := by decide +kernel
theorem d_Co_init_10 : decode I_Co_init.2.1 10 = .ok (.aload_n 2, 1) := by decide +kernel
theorem d_Co_init_11 : decode I_Co_init.2.1 11 = .ok (.putfield 15, 3) := by decide +kernel
theorem d_Co_init_14 : decode I_Co_init.2.1 14 = .ok (.aload_n 0, 1) := by decide +kernel
theorem d_Co_init_15 : decode I_Co_init.2.1 15 = .ok (.aload_n 3, 1) := by decide +kernel
theorem d_Co_init_16 : decode I_Co_init.2.1 16 = .ok (.putfield 19, 3) := by decide +kernel
theorem d_Co_init_19 : decode I_Co_init.2.1 19 = .ok (.aload_n 0, 1) := by decide +kernel
theorem d_Co_init_20 : decode I_Co_init.2.1 20 = .ok (.bipush 11, 2) := by decide +kernel
theorem d_Co_init_22 : decode I_Co_init.2.1 22 = .ok (.anewarray 23, 3) := by decide +kernel
theorem d_Co_init_25 : decode I_Co_init.2.1 25 = .ok (.putfield 25, 3) := by decide +kernel
theorem d_Co_init_28 : decode I_Co_init.2.1 28 = .ok (.iconst 0, 1) := by decide +kernel
theorem d_Co_init_29 : decode I_Co_init.2.1 29 = .ok (.istore 4, 2) := by decide +kernel
theorem d_Co_init_31 : decode I_Co_init.2.1 31 = .ok (.iload 4, 2) := by decide +kernel
theorem d_Co_init_33 : decode I_Co_init.2.1 33 = .ok (.aload_n 0, 1) := by decide +kernel
theorem d_Co_init_34 : decode I_Co_init.2.1 34 = .ok (.getfield 25, 3) := by decide +kernel
theorem d_Co_init_37 : decode I_Co_init.2.1 37 = .ok (.arraylength, 1) := by decide +kernel
theorem d_Co_init_38 : decode I_Co_init.2.1 38 = .ok (.if_icmp .ge 23, 3) := by decide +kernel
theorem d_Co_init_41 : decode I_Co_init.2.1 41 = .ok (.aload_n 0, 1) := by decide +kernel
theorem d_Co_init_42 : decode I_Co_init.2.1 42 = .ok (.getfield 25, 3) := by decide +kernel
theorem d_Co_init_45 : decode I_Co_init.2.1 45 = .ok (.iload 4, 2) := by decide +kernel
theorem d_Co_init_47 : decode I_Co_init.2.1 47 = .ok (.new 23, 3) := by decide +kernel
theorem d_Co_init_50 : decode I_Co_init.2.1 50 = .ok (.dup, 1) := by decide +kernel
theorem d_Co_init_51 : decode I_Co_init.2.1 51 = .ok (.invokespecial 29, 3) := by decide +kernel
theorem d_Co_init_54 : decode I_Co_init.2.1 54 = .ok (.aastore, 1) := by decide +kernel
theorem d_Co_init_55 : decode I_Co_init.2.1 55 = .ok (.iinc 4 1, 3) := by decide +kernel
theorem d_Co_init_58 : decode I_Co_init.2.1 58 = .ok (.goto (-27), 3) := by decide +kernel
theorem d_Co_init_61 : decode I_Co_init.2.1 61 = .ok (.return_, 1) := by decide +kernel
theorem d_Co_isAwake_0 : decode I_Co_isAwake.2.1 0 = .ok (.aload_n 0, 1) := by decide +kernel
theorem d_Co_isAwake_1 : decode I_Co_isAwake.2.1 1 = .ok (.getfield 19, 3) := by decide +kernel
theorem d_Co_isAwake_4 : decode I_Co_isAwake.2.1 4 = .ok (.iconst 3, 1) := by decide +kernel
theorem d_Co_isAwake_5 : decode I_Co_isAwake.2.1 5 = .ok (.iaload, 1) := by decide +kernel
theorem d_Co_isAwake_6 : decode I_Co_isAwake.2.1 6 = .ok (.iload_n 1, 1) := by decide +kernel
theorem d_Co_isAwake_7 : decode I_Co_isAwake.2.1 7 = .ok (.iushr, 1) := by decide +kernel
theorem d_Co_isAwake_8 : decode I_Co_isAwake.2.1 8 = .ok (.iconst 1, 1) := by decide +kernel
theorem d_Co_isAwake_9 : decode I_Co_isAwake.2.1 9 = .ok (.iand, 1) := by decide +kernel
theorem d_Co_isAwake_10 : decode I_Co_isAwake.2.1 10 = .ok (.ifCond .ne 7, 3) := by decide +kernel
theorem d_Co_isAwake_13 : decode I_Co_isAwake.2.1 13 = .ok (.iconst 1, 1) := by decide +kernel
theorem d_Co_isAwake_14 : decode I_Co_isAwake.2.1 14 = .ok (.goto 4, 3) := by decide +kernel
theorem d_Co_isAwake_17 : decode I_Co_isAwake.2.1 17 = .ok (.iconst 0, 1) := by decide +kernel
theorem d_Co_isAwake_18 : decode I_Co_isAwake.2.1 18 = .ok (.ireturn, 1) := by decide +kernel
theorem d_Co_comersOn_0 : decode I_Co_comersOn.2.1 0 = .ok (.iconst 0, 1) := by decide +kernel
theorem d_Co_comersOn_1 : decode I_Co_comersOn.2.1 1 = .ok (.istore_n 2, 1) := by decide +kernel
theorem d_Co_comersOn_2 : decode I_Co_comersOn.2.1 2 = .ok (.aload_n 0, 1) := by decide +kernel
theorem d_Co_comersOn_3 : decode I_Co_comersOn.2.1 3 = .ok (.getfield 15, 3) := by decide +kernel
theorem d_Co_comersOn_6 : decode I_Co_comersOn.2.1 6 = .ok (.getfield 30, 3) := by decide +kernel
theorem d_Co_comersOn_9 : decode I_Co_comersOn.2.1 9 = .ok (.iload_n 1, 1) := by decide +kernel
theorem d_Co_comersOn_10 : decode I_Co_comersOn.2.1 10 = .ok (.iaload, 1) := by decide +kernel
theorem d_Co_comersOn_11 : decode I_Co_comersOn.2.1 11 = .ok (.istore_n 3, 1) := by decide +kernel
theorem d_Co_comersOn_12 : decode I_Co_comersOn.2.1 12 = .ok (.iload_n 3, 1) := by decide +kernel
theorem d_Co_comersOn_13 : decode I_Co_comersOn.2.1 13 = .ok (.aload_n 0, 1) := by decide +kernel
theorem d_Co_comersOn_14 : decode I_Co_comersOn.2.1 14 = .ok (.getfield 15, 3) := by decide +kernel
theorem d_Co_comersOn_17 : decode I_Co_comersOn.2.1 17 = .ok (.getfield 30, 3) := by decide +kernel
theorem d_Co_comersOn_20 : decode I_Co_comersOn.2.1 20 = .ok (.iload_n 1, 1) := by decide +kernel
theorem d_Co_comersOn_21 : decode I_Co_comersOn.2.1 21 = .ok (.iconst 1, 1) := by decide +kernel
theorem d_Co_comersOn_22 : decode I_Co_comersOn.2.1 22 = .ok (.iadd, 1) := by decide +kernel
theorem d_Co_comersOn_23 : decode I_Co_comersOn.2.1 23 = .ok (.iaload, 1) := by decide +kernel
theorem d_Co_comersOn_24 : decode I_Co_comersOn.2.1 24 = .ok (.if_icmp .ge 30, 3) := by decide +kernel
theorem d_Co_comersOn_27 : decode I_Co_comersOn.2.1 27 = .ok (.aload_n 0, 1) := by decide +kernel
theorem d_Co_comersOn_28 : decode I_Co_comersOn.2.1 28 = .ok (.getfield 9, 3) := by decide +kernel
theorem d_Co_comersOn_31 : decode I_Co_comersOn.2.1 31 = .ok (.aload_n 0, 1) := by decide +kernel
theorem d_Co_comersOn_32 : decode I_Co_comersOn.2.1 32 = .ok (.getfield 15, 3) := by decide +kernel
theorem d_Co_comersOn_35 : decode I_Co_comersOn.2.1 35 = .ok (.iload_n 3, 1) := by decide +kernel
theorem d_Co_comersOn_36 : decode I_Co_comersOn.2.1 36 = .ok (.invokevirtual 35, 3) := by decide +kernel
theorem d_Co_comersOn_39 : decode I_Co_comersOn.2.1 39 = .ok (.invokevirtual 39, 3) := by decide +kernel
theorem d_Co_comersOn_42 : decode I_Co_comersOn.2.1 42 = .ok (.ifCond .eq 6, 3) := by decide +kernel
theorem d_Co_comersOn_45 : decode I_Co_comersOn.2.1 45 = .ok (.iinc 2 1, 3) := by decide +kernel
theorem d_Co_comersOn_48 : decode I_Co_comersOn.2.1 48 = .ok (.iinc 3 1, 3) := by decide +kernel
theorem d_Co_comersOn_51 : decode I_Co_comersOn.2.1 51 = .ok (.goto (-39), 3) := by decide +kernel
theorem d_Co_comersOn_54 : decode I_Co_comersOn.2.1 54 = .ok (.iload_n 2, 1) := by decide +kernel
theorem d_Co_comersOn_55 : decode I_Co_comersOn.2.1 55 = .ok (.ireturn, 1) := by decide +kernel
theorem d_Co_liveDay_0 : decode I_Co_liveDay.2.1 0 = .ok (.aload_n 0, 1) := by decide +kernel
theorem d_Co_liveDay_1 : decode I_Co_liveDay.2.1 1 = .ok (.iload_n 2, 1) := by decide +kernel
theorem d_Co_liveDay_2 : decode I_Co_liveDay.2.1 2 = .ok (.invokevirtual 45, 3) := by decide +kernel
theorem d_Co_liveDay_5 : decode I_Co_liveDay.2.1 5 = .ok (.ifCond .eq 9, 3) := by decide +kernel
theorem d_Co_liveDay_8 : decode I_Co_liveDay.2.1 8 = .ok (.aload_n 0, 1) := by decide +kernel
theorem d_Co_liveDay_9 : decode I_Co_liveDay.2.1 9 = .ok (.aload_n 1, 1) := by decide +kernel
theorem d_Co_liveDay_10 : decode I_Co_liveDay.2.1 10 = .ok (.iload_n 2, 1) := by decide +kernel
theorem d_Co_liveDay_11 : decode I_Co_liveDay.2.1 11 = .ok (.invokevirtual 48, 3) := by decide +kernel
theorem d_Co_liveDay_14 : decode I_Co_liveDay.2.1 14 = .ok (.aload_n 0, 1) := by decide +kernel
theorem d_Co_liveDay_15 : decode I_Co_liveDay.2.1 15 = .ok (.aload_n 1, 1) := by decide +kernel
theorem d_Co_liveDay_16 : decode I_Co_liveDay.2.1 16 = .ok (.invokevirtual 52, 3) := by decide +kernel
theorem d_Co_liveDay_19 : decode I_Co_liveDay.2.1 19 = .ok (.return_, 1) := by decide +kernel
theorem d_Co_comeAsTold_0 : decode I_Co_comeAsTold.2.1 0 = .ok (.aload_n 0, 1) := by decide +kernel
theorem d_Co_comeAsTold_1 : decode I_Co_comeAsTold.2.1 1 = .ok (.getfield 15, 3) := by decide +kernel
theorem d_Co_comeAsTold_4 : decode I_Co_comeAsTold.2.1 4 = .ok (.getfield 30, 3) := by decide +kernel
theorem d_Co_comeAsTold_7 : decode I_Co_comeAsTold.2.1 7 = .ok (.iload_n 2, 1) := by decide +kernel
theorem d_Co_comeAsTold_8 : decode I_Co_comeAsTold.2.1 8 = .ok (.iaload, 1) := by decide +kernel
theorem d_Co_comeAsTold_9 : decode I_Co_comeAsTold.2.1 9 = .ok (.istore_n 3, 1) := by decide +kernel
theorem d_Co_comeAsTold_10 : decode I_Co_comeAsTold.2.1 10 = .ok (.iload_n 3, 1) := by decide +kernel
theorem d_Co_comeAsTold_11 : decode I_Co_comeAsTold.2.1 11 = .ok (.aload_n 0, 1) := by decide +kernel
theorem d_Co_comeAsTold_12 : decode I_Co_comeAsTold.2.1 12 = .ok (.getfield 15, 3) := by decide +kernel
theorem d_Co_comeAsTold_15 : decode I_Co_comeAsTold.2.1 15 = .ok (.getfield 30, 3) := by decide +kernel
theorem d_Co_comeAsTold_18 : decode I_Co_comeAsTold.2.1 18 = .ok (.iload_n 2, 1) := by decide +kernel
theorem d_Co_comeAsTold_19 : decode I_Co_comeAsTold.2.1 19 = .ok (.iconst 1, 1) := by decide +kernel
theorem d_Co_comeAsTold_20 : decode I_Co_comeAsTold.2.1 20 = .ok (.iadd, 1) := by decide +kernel
theorem d_Co_comeAsTold_21 : decode I_Co_comeAsTold.2.1 21 = .ok (.iaload, 1) := by decide +kernel
theorem d_Co_comeAsTold_22 : decode I_Co_comeAsTold.2.1 22 = .ok (.if_icmp .ge 31, 3) := by decide +kernel
theorem d_Co_comeAsTold_25 : decode I_Co_comeAsTold.2.1 25 = .ok (.aload_n 0, 1) := by decide +kernel
theorem d_Co_comeAsTold_26 : decode I_Co_comeAsTold.2.1 26 = .ok (.aload_n 1, 1) := by decide +kernel
theorem d_Co_comeAsTold_27 : decode I_Co_comeAsTold.2.1 27 = .ok (.iload_n 2, 1) := by decide +kernel
theorem d_Co_comeAsTold_28 : decode I_Co_comeAsTold.2.1 28 = .ok (.aload_n 0, 1) := by decide +kernel
theorem d_Co_comeAsTold_29 : decode I_Co_comeAsTold.2.1 29 = .ok (.getfield 15, 3) := by decide +kernel
theorem d_Co_comeAsTold_32 : decode I_Co_comeAsTold.2.1 32 = .ok (.iload_n 3, 1) := by decide +kernel
theorem d_Co_comeAsTold_33 : decode I_Co_comeAsTold.2.1 33 = .ok (.invokevirtual 35, 3) := by decide +kernel
theorem d_Co_comeAsTold_36 : decode I_Co_comeAsTold.2.1 36 = .ok (.aload_n 0, 1) := by decide +kernel
theorem d_Co_comeAsTold_37 : decode I_Co_comeAsTold.2.1 37 = .ok (.getfield 15, 3) := by decide +kernel
theorem d_Co_comeAsTold_40 : decode I_Co_comeAsTold.2.1 40 = .ok (.iload_n 3, 1) := by decide +kernel
theorem d_Co_comeAsTold_41 : decode I_Co_comeAsTold.2.1 41 = .ok (.invokevirtual 56, 3) := by decide +kernel
theorem d_Co_comeAsTold_44 : decode I_Co_comeAsTold.2.1 44 = .ok (.invokevirtual 59, 3) := by decide +kernel
theorem d_Co_comeAsTold_47 : decode I_Co_comeAsTold.2.1 47 = .ok (.iinc 3 1, 3) := by decide +kernel
theorem d_Co_comeAsTold_50 : decode I_Co_comeAsTold.2.1 50 = .ok (.goto (-40), 3) := by decide +kernel
theorem d_Co_comeAsTold_53 : decode I_Co_comeAsTold.2.1 53 = .ok (.return_, 1) := by decide +kernel
theorem d_Co_bring_0 : decode I_Co_bring.2.1 0 = .ok (.iload_n 3, 1) := by decide +kernel
theorem d_Co_bring_1 : decode I_Co_bring.2.1 1 = .ok (.ifCond .lt 25, 3) := by decide +kernel
theorem d_Co_bring_4 : decode I_Co_bring.2.1 4 = .ok (.iload_n 3, 1) := by decide +kernel
theorem d_Co_bring_5 : decode I_Co_bring.2.1 5 = .ok (.aload_n 0, 1) := by decide +kernel
theorem d_Co_bring_6 : decode I_Co_bring.2.1 6 = .ok (.getfield 9, 3) := by decide +kernel
theorem d_Co_bring_9 : decode I_Co_bring.2.1 9 = .ok (.getfield 63, 3) := by decide +kernel
theorem d_Co_bring_12 : decode I_Co_bring.2.1 12 = .ok (.if_icmp .ge 14, 3) := by decide +kernel
theorem d_Co_bring_15 : decode I_Co_bring.2.1 15 = .ok (.iload 4, 2) := by decide +kernel
theorem d_Co_bring_17 : decode I_Co_bring.2.1 17 = .ok (.ifCond .lt 9, 3) := by decide +kernel
theorem d_Co_bring_20 : decode I_Co_bring.2.1 20 = .ok (.iload 4, 2) := by decide +kernel
theorem d_Co_bring_22 : decode I_Co_bring.2.1 22 = .ok (.iconst 3, 1) := by decide +kernel
theorem d_Co_bring_23 : decode I_Co_bring.2.1 23 = .ok (.if_icmp .lt 4, 3) := by decide +kernel
theorem d_Co_bring_26 : decode I_Co_bring.2.1 26 = .ok (.return_, 1) := by decide +kernel
theorem d_Co_bring_27 : decode I_Co_bring.2.1 27 = .ok (.aload_n 1, 1) := by decide +kernel
theorem d_Co_bring_28 : decode I_Co_bring.2.1 28 = .ok (.getfield 67, 3) := by decide +kernel
theorem d_Co_bring_31 : decode I_Co_bring.2.1 31 = .ok (.iload 4, 2) := by decide +kernel
theorem d_Co_bring_33 : decode I_Co_bring.2.1 33 = .ok (.iaload, 1) := by decide +kernel
theorem d_Co_bring_34 : decode I_Co_bring.2.1 34 = .ok (.aload_n 0, 1) := by decide +kernel
theorem d_Co_bring_35 : decode I_Co_bring.2.1 35 = .ok (.getfield 9, 3) := by decide +kernel
theorem d_Co_bring_38 : decode I_Co_bring.2.1 38 = .ok (.getfield 70, 3) := by decide +kernel
theorem d_Co_bring_41 : decode I_Co_bring.2.1 41 = .ok (.iload_n 3, 1) := by decide +kernel
theorem d_Co_bring_42 : decode I_Co_bring.2.1 42 = .ok (.iconst 3, 1) := by decide +kernel
theorem d_Co_bring_43 : decode I_Co_bring.2.1 43 = .ok (.imul, 1) := by decide +kernel
theorem d_Co_bring_44 : decode I_Co_bring.2.1 44 = .ok (.iload 4, 2) := by decide +kernel
theorem d_Co_bring_46 : decode I_Co_bring.2.1 46 = .ok (.iadd, 1) := by decide +kernel
theorem d_Co_bring_47 : decode I_Co_bring.2.1 47 = .ok (.iaload, 1) := by decide +kernel
theorem d_Co_bring_48 : decode I_Co_bring.2.1 48 = .ok (.imul, 1) := by decide +kernel
theorem d_Co_bring_49 : decode I_Co_bring.2.1 49 = .ok (.istore 5, 2) := by decide +kernel
theorem d_Co_bring_51 : decode I_Co_bring.2.1 51 = .ok (.iload 4, 2) := by decide +kernel
theorem d_Co_bring_53 : decode I_Co_bring.2.1 53 = .ok (.ifCond .ne 29, 3) := by decide +kernel
theorem d_Co_bring_56 : decode I_Co_bring.2.1 56 = .ok (.aload_n 1, 1) := by decide +kernel
theorem d_Co_bring_57 : decode I_Co_bring.2.1 57 = .ok (.getfield 73, 3) := by decide +kernel
theorem d_Co_bring_60 : decode I_Co_bring.2.1 60 = .ok (.iload_n 2, 1) := by decide +kernel
theorem d_Co_bring_61 : decode I_Co_bring.2.1 61 = .ok (.aload_n 0, 1) := by decide +kernel
theorem d_Co_bring_62 : decode I_Co_bring.2.1 62 = .ok (.getfield 19, 3) := by decide +kernel
theorem d_Co_bring_65 : decode I_Co_bring.2.1 65 = .ok (.iconst 1, 1) := by decide +kernel
theorem d_Co_bring_66 : decode I_Co_bring.2.1 66 = .ok (.iaload, 1) := by decide +kernel
theorem d_Co_bring_67 : decode I_Co_bring.2.1 67 = .ok (.isub, 1) := by decide +kernel
theorem d_Co_bring_68 : decode I_Co_bring.2.1 68 = .ok (.if_icmp .ge 9, 3) := by decide +kernel
theorem d_Co_bring_71 : decode I_Co_bring.2.1 71 = .ok (.iload 5, 2) := by decide +kernel
theorem d_Co_bring_73 : decode I_Co_bring.2.1 73 = .ok (.iconst 2, 1) := by decide +kernel
theorem d_Co_bring_74 : decode I_Co_bring.2.1 74 = .ok (.imul, 1) := by decide +kernel
theorem d_Co_bring_75 : decode I_Co_bring.2.1 75 = .ok (.istore 5, 2) := by decide +kernel
theorem d_Co_bring_77 : decode I_Co_bring.2.1 77 = .ok (.aload_n 1, 1) := by decide +kernel
theorem d_Co_bring_78 : decode I_Co_bring.2.1 78 = .ok (.iload_n 2, 1) := by decide +kernel
theorem d_Co_bring_79 : decode I_Co_bring.2.1 79 = .ok (.putfield 73, 3) := by decide +kernel
theorem d_Co_bring_82 : decode I_Co_bring.2.1 82 = .ok (.aload_n 1, 1) := by decide +kernel
theorem d_Co_bring_83 : decode I_Co_bring.2.1 83 = .ok (.getfield 76, 3) := by decide +kernel
theorem d_Co_bring_86 : decode I_Co_bring.2.1 86 = .ok (.iload_n 3, 1) := by decide +kernel
theorem d_Co_bring_87 : decode I_Co_bring.2.1 87 = .ok (.iaload, 1) := by decide +kernel
theorem d_Co_bring_88 : decode I_Co_bring.2.1 88 = .ok (.iload 4, 2) := by decide +kernel
theorem d_Co_bring_90 : decode I_Co_bring.2.1 90 = .ok (.if_icmp .ne 14, 3) := by decide +kernel
theorem d_Co_bring_93 : decode I_Co_bring.2.1 93 = .ok (.iload 5, 2) := by decide +kernel
theorem d_Co_bring_95 : decode I_Co_bring.2.1 95 = .ok (.aload_n 0, 1) := by decide +kernel
theorem d_Co_bring_96 : decode I_Co_bring.2.1 96 = .ok (.getfield 19, 3) := by decide +kernel
theorem d_Co_bring_99 : decode I_Co_bring.2.1 99 = .ok (.iconst 0, 1) := by decide +kernel
theorem d_Co_bring_100 : decode I_Co_bring.2.1 100 = .ok (.iaload, 1) := by decide +kernel
theorem d_Co_bring_101 : decode I_Co_bring.2.1 101 = .ok (.isub, 1) := by decide +kernel
theorem d_Co_bring_102 : decode I_Co_bring.2.1 102 = .ok (.istore 5, 2) := by decide +kernel
theorem d_Co_bring_104 : decode I_Co_bring.2.1 104 = .ok (.iload 5, 2) := by decide +kernel
theorem d_Co_bring_106 : decode I_Co_bring.2.1 106 = .ok (.ifCond .le 14, 3) := by decide +kernel
theorem d_Co_bring_109 : decode I_Co_bring.2.1 109 = .ok (.aload_n 1, 1) := by decide +kernel
theorem d_Co_bring_110 : decode I_Co_bring.2.1 110 = .ok (.getfield 79, 3) := by decide +kernel
theorem d_Co_bring_113 : decode I_Co_bring.2.1 113 = .ok (.iload_n 3, 1) := by decide +kernel
theorem d_Co_bring_114 : decode I_Co_bring.2.1 114 = .ok (.dup2, 1) := by decide +kernel
theorem d_Co_bring_115 : decode I_Co_bring.2.1 115 = .ok (.iaload, 1) := by decide +kernel
theorem d_Co_bring_116 : decode I_Co_bring.2.1 116 = .ok (.iload 5, 2) := by decide +kernel
theorem d_Co_bring_118 : decode I_Co_bring.2.1 118 = .ok (.iadd, 1) := by decide +kernel
theorem d_Co_bring_119 : decode I_Co_bring.2.1 119 = .ok (.iastore, 1) := by decide +kernel
theorem d_Co_bring_120 : decode I_Co_bring.2.1 120 = .ok (.aload_n 1, 1) := by decide +kernel
theorem d_Co_bring_121 : decode I_Co_bring.2.1 121 = .ok (.getfield 76, 3) := by decide +kernel
theorem d_Co_bring_124 : decode I_Co_bring.2.1 124 = .ok (.iload_n 3, 1) := by decide +kernel
theorem d_Co_bring_125 : decode I_Co_bring.2.1 125 = .ok (.iload 4, 2) := by decide +kernel
theorem d_Co_bring_127 : decode I_Co_bring.2.1 127 = .ok (.iastore, 1) := by decide +kernel
theorem d_Co_bring_128 : decode I_Co_bring.2.1 128 = .ok (.aload_n 1, 1) := by decide +kernel
theorem d_Co_bring_129 : decode I_Co_bring.2.1 129 = .ok (.dup, 1) := by decide +kernel
theorem d_Co_bring_130 : decode I_Co_bring.2.1 130 = .ok (.getfield 82, 3) := by decide +kernel
theorem d_Co_bring_133 : decode I_Co_bring.2.1 133 = .ok (.iconst 1, 1) := by decide +kernel
theorem d_Co_bring_134 : decode I_Co_bring.2.1 134 = .ok (.iload_n 3, 1) := by decide +kernel
theorem d_Co_bring_135 : decode I_Co_bring.2.1 135 = .ok (.ishl, 1) := by decide +kernel
theorem d_Co_bring_136 : decode I_Co_bring.2.1 136 = .ok (.ior, 1) := by decide +kernel
theorem d_Co_bring_137 : decode I_Co_bring.2.1 137 = .ok (.putfield 82, 3) := by decide +kernel
theorem d_Co_bring_140 : decode I_Co_bring.2.1 140 = .ok (.return_, 1) := by decide +kernel
theorem d_Co_evening_0 : decode I_Co_evening.2.1 0 = .ok (.aload_n 1, 1) := by decide +kernel
theorem d_Co_evening_1 : decode I_Co_evening.2.1 1 = .ok (.getfield 85, 3) := by decide +kernel
theorem d_Co_evening_4 : decode I_Co_evening.2.1 4 = .ok (.iconst (-1), 1) := by decide +kernel
theorem d_Co_evening_5 : decode I_Co_evening.2.1 5 = .ok (.if_icmp .ne 7, 3) := by decide +kernel
theorem d_Co_evening_8 : decode I_Co_evening.2.1 8 = .ok (.iconst 0, 1) := by decide +kernel
theorem d_Co_evening_9 : decode I_Co_evening.2.1 9 = .ok (.goto 9, 3) := by decide +kernel
theorem d_Co_evening_12 : decode I_Co_evening.2.1 12 = .ok (.aload_n 0, 1) := by decide +kernel
theorem d_Co_evening_13 : decode I_Co_evening.2.1 13 = .ok (.getfield 19, 3) := by decide +kernel
theorem d_Co_evening_16 : decode I_Co_evening.2.1 16 = .ok (.iconst 4, 1) := by decide +kernel
theorem d_Co_evening_17 : decode I_Co_evening.2.1 17 = .ok (.iaload, 1) := by decide +kernel
theorem d_Co_evening_18 : decode I_Co_evening.2.1 18 = .ok (.istore_n 2, 1) := by decide +kernel
theorem d_Co_evening_19 : decode I_Co_evening.2.1 19 = .ok (.aload_n 1, 1) := by decide +kernel
theorem d_Co_evening_20 : decode I_Co_evening.2.1 20 = .ok (.getfield 82, 3) := by decide +kernel
theorem d_Co_evening_23 : decode I_Co_evening.2.1 23 = .ok (.ifCond .ne 17, 3) := by decide +kernel
theorem d_Co_evening_26 : decode I_Co_evening.2.1 26 = .ok (.aload_n 0, 1) := by decide +kernel
theorem d_Co_evening_27 : decode I_Co_evening.2.1 27 = .ok (.getfield 19, 3) := by decide +kernel
theorem d_Co_evening_30 : decode I_Co_evening.2.1 30 = .ok (.iconst 2, 1) := by decide +kernel
theorem d_Co_evening_31 : decode I_Co_evening.2.1 31 = .ok (.iaload, 1) := by decide +kernel
theorem d_Co_evening_32 : decode I_Co_evening.2.1 32 = .ok (.ifCond .ne 8, 3) := by decide +kernel
theorem d_Co_evening_35 : decode I_Co_evening.2.1 35 = .ok (.iload_n 2, 1) := by decide +kernel
theorem d_Co_evening_36 : decode I_Co_evening.2.1 36 = .ok (.ifCond .ne 4, 3) := by decide +kernel
theorem d_Co_evening_39 : decode I_Co_evening.2.1 39 = .ok (.return_, 1) := by decide +kernel
theorem d_Co_evening_40 : decode I_Co_evening.2.1 40 = .ok (.iconst 0, 1) := by decide +kernel
theorem d_Co_evening_41 : decode I_Co_evening.2.1 41 = .ok (.istore_n 3, 1) := by decide +kernel
theorem d_Co_evening_42 : decode I_Co_evening.2.1 42 = .ok (.iload_n 3, 1) := by decide +kernel
theorem d_Co_evening_43 : decode I_Co_evening.2.1 43 = .ok (.aload_n 0, 1) := by decide +kernel
theorem d_Co_evening_44 : decode I_Co_evening.2.1 44 = .ok (.getfield 9, 3) := by decide +kernel
theorem d_Co_evening_47 : decode I_Co_evening.2.1 47 = .ok (.getfield 63, 3) := by decide +kernel
theorem d_Co_evening_50 : decode I_Co_evening.2.1 50 = .ok (.if_icmp .ge 73, 3) := by decide +kernel
theorem d_Co_evening_53 : decode I_Co_evening.2.1 53 = .ok (.aload_n 1, 1) := by decide +kernel
theorem d_Co_evening_54 : decode I_Co_evening.2.1 54 = .ok (.getfield 82, 3) := by decide +kernel
theorem d_Co_evening_57 : decode I_Co_evening.2.1 57 = .ok (.iload_n 3, 1) := by decide +kernel
theorem d_Co_evening_58 : decode I_Co_evening.2.1 58 = .ok (.iushr, 1) := by decide +kernel
theorem d_Co_evening_59 : decode I_Co_evening.2.1 59 = .ok (.iconst 1, 1) := by decide +kernel
theorem d_Co_evening_60 : decode I_Co_evening.2.1 60 = .ok (.iand, 1) := by decide +kernel
theorem d_Co_evening_61 : decode I_Co_evening.2.1 61 = .ok (.ifCond .eq 7, 3) := by decide +kernel
theorem d_Co_evening_64 : decode I_Co_evening.2.1 64 = .ok (.iconst 1, 1) := by decide +kernel
theorem d_Co_evening_65 : decode I_Co_evening.2.1 65 = .ok (.goto 4, 3) := by decide +kernel
theorem d_Co_evening_68 : decode I_Co_evening.2.1 68 = .ok (.iconst 0, 1) := by decide +kernel
theorem d_Co_evening_69 : decode I_Co_evening.2.1 69 = .ok (.istore 4, 2) := by decide +kernel
theorem d_Co_evening_71 : decode I_Co_evening.2.1 71 = .ok (.iload 4, 2) := by decide +kernel
theorem d_Co_evening_73 : decode I_Co_evening.2.1 73 = .ok (.ifCond .ne 26, 3) := by decide +kernel
theorem d_Co_evening_76 : decode I_Co_evening.2.1 76 = .ok (.aload_n 1, 1) := by decide +kernel
theorem d_Co_evening_77 : decode I_Co_evening.2.1 77 = .ok (.getfield 79, 3) := by decide +kernel
theorem d_Co_evening_80 : decode I_Co_evening.2.1 80 = .ok (.iload_n 3, 1) := by decide +kernel
theorem d_Co_evening_81 : decode I_Co_evening.2.1 81 = .ok (.iconst 0, 1) := by decide +kernel
theorem d_Co_evening_82 : decode I_Co_evening.2.1 82 = .ok (.aload_n 1, 1) := by decide +kernel
theorem d_Co_evening_83 : decode I_Co_evening.2.1 83 = .ok (.getfield 79, 3) := by decide +kernel
theorem d_Co_evening_86 : decode I_Co_evening.2.1 86 = .ok (.iload_n 3, 1) := by decide +kernel
theorem d_Co_evening_87 : decode I_Co_evening.2.1 87 = .ok (.iaload, 1) := by decide +kernel
theorem d_Co_evening_88 : decode I_Co_evening.2.1 88 = .ok (.aload_n 0, 1) := by decide +kernel
theorem d_Co_evening_89 : decode I_Co_evening.2.1 89 = .ok (.getfield 19, 3) := by decide +kernel
theorem d_Co_evening_92 : decode I_Co_evening.2.1 92 = .ok (.iconst 2, 1) := by decide +kernel
theorem d_Co_evening_93 : decode I_Co_evening.2.1 93 = .ok (.iaload, 1) := by decide +kernel
theorem d_Co_evening_94 : decode I_Co_evening.2.1 94 = .ok (.isub, 1) := by decide +kernel
theorem d_Co_evening_95 : decode I_Co_evening.2.1 95 = .ok (.invokestatic 88, 3) := by decide +kernel
theorem d_Co_evening_98 : decode I_Co_evening.2.1 98 = .ok (.iastore, 1) := by decide +kernel
theorem d_Co_evening_99 : decode I_Co_evening.2.1 99 = .ok (.iload_n 3, 1) := by decide +kernel
theorem d_Co_evening_100 : decode I_Co_evening.2.1 100 = .ok (.aload_n 1, 1) := by decide +kernel
theorem d_Co_evening_101 : decode I_Co_evening.2.1 101 = .ok (.getfield 85, 3) := by decide +kernel
theorem d_Co_evening_104 : decode I_Co_evening.2.1 104 = .ok (.if_icmp .ne 13, 3) := by decide +kernel
theorem d_Co_evening_107 : decode I_Co_evening.2.1 107 = .ok (.aload_n 1, 1) := by decide +kernel
theorem d_Co_evening_108 : decode I_Co_evening.2.1 108 = .ok (.getfield 79, 3) := by decide +kernel
theorem d_Co_evening_111 : decode I_Co_evening.2.1 111 = .ok (.iload_n 3, 1) := by decide +kernel
theorem d_Co_evening_112 : decode I_Co_evening.2.1 112 = .ok (.dup2, 1) := by decide +kernel
theorem d_Co_evening_113 : decode I_Co_evening.2.1 113 = .ok (.iaload, 1) := by decide +kernel
theorem d_Co_evening_114 : decode I_Co_evening.2.1 114 = .ok (.iload_n 2, 1) := by decide +kernel
theorem d_Co_evening_115 : decode I_Co_evening.2.1 115 = .ok (.iadd, 1) := by decide +kernel
theorem d_Co_evening_116 : decode I_Co_evening.2.1 116 = .ok (.iastore, 1) := by decide +kernel
theorem d_Co_evening_117 : decode I_Co_evening.2.1 117 = .ok (.iinc 3 1, 3) := by decide +kernel
theorem d_Co_evening_120 : decode I_Co_evening.2.1 120 = .ok (.goto (-78), 3) := by decide +kernel
theorem d_Co_evening_123 : decode I_Co_evening.2.1 123 = .ok (.aload_n 1, 1) := by decide +kernel
theorem d_Co_evening_124 : decode I_Co_evening.2.1 124 = .ok (.iconst 0, 1) := by decide +kernel
theorem d_Co_evening_125 : decode I_Co_evening.2.1 125 = .ok (.putfield 82, 3) := by decide +kernel
theorem d_Co_evening_128 : decode I_Co_evening.2.1 128 = .ok (.aload_n 1, 1) := by decide +kernel
theorem d_Co_evening_129 : decode I_Co_evening.2.1 129 = .ok (.aload_n 0, 1) := by decide +kernel
theorem d_Co_evening_130 : decode I_Co_evening.2.1 130 = .ok (.aload_n 1, 1) := by decide +kernel
theorem d_Co_evening_131 : decode I_Co_evening.2.1 131 = .ok (.invokevirtual 94, 3) := by decide +kernel
theorem d_Co_evening_134 : decode I_Co_evening.2.1 134 = .ok (.putfield 98, 3) := by decide +kernel
theorem d_Co_evening_137 : decode I_Co_evening.2.1 137 = .ok (.return_, 1) := by decide +kernel
theorem d_Co_mostLiked_0 : decode I_Co_mostLiked.2.1 0 = .ok (.iconst 0, 1) := by decide +kernel
theorem d_Co_mostLiked_1 : decode I_Co_mostLiked.2.1 1 = .ok (.istore_n 2, 1) := by decide +kernel
theorem d_Co_mostLiked_2 : decode I_Co_mostLiked.2.1 2 = .ok (.iconst (-1), 1) := by decide +kernel
theorem d_Co_mostLiked_3 : decode I_Co_mostLiked.2.1 3 = .ok (.istore_n 3, 1) := by decide +kernel
theorem d_Co_mostLiked_4 : decode I_Co_mostLiked.2.1 4 = .ok (.iconst 0, 1) := by decide +kernel
theorem d_Co_mostLiked_5 : decode I_Co_mostLiked.2.1 5 = .ok (.istore 4, 2) := by decide +kernel
theorem d_Co_mostLiked_7 : decode I_Co_mostLiked.2.1 7 = .ok (.iload 4, 2) := by decide +kernel
theorem d_Co_mostLiked_9 : decode I_Co_mostLiked.2.1 9 = .ok (.aload_n 0, 1) := by decide +kernel
theorem d_Co_mostLiked_10 : decode I_Co_mostLiked.2.1 10 = .ok (.getfield 9, 3) := by decide +kernel
theorem d_Co_mostLiked_13 : decode I_Co_mostLiked.2.1 13 = .ok (.getfield 63, 3) := by decide +kernel
theorem d_Co_mostLiked_16 : decode I_Co_mostLiked.2.1 16 = .ok (.if_icmp .ge 31, 3) := by decide +kernel
theorem d_Co_mostLiked_19 : decode I_Co_mostLiked.2.1 19 = .ok (.aload_n 1, 1) := by decide +kernel
theorem d_Co_mostLiked_20 : decode I_Co_mostLiked.2.1 20 = .ok (.getfield 79, 3) := by decide +kernel
theorem d_Co_mostLiked_23 : decode I_Co_mostLiked.2.1 23 = .ok (.iload 4, 2) := by decide +kernel
theorem d_Co_mostLiked_25 : decode I_Co_mostLiked.2.1 25 = .ok (.iaload, 1) := by decide +kernel
theorem d_Co_mostLiked_26 : decode I_Co_mostLiked.2.1 26 = .ok (.iload_n 2, 1) := by decide +kernel
theorem d_Co_mostLiked_27 : decode I_Co_mostLiked.2.1 27 = .ok (.if_icmp .le 14, 3) := by decide +kernel
theorem d_Co_mostLiked_30 : decode I_Co_mostLiked.2.1 30 = .ok (.aload_n 1, 1) := by decide +kernel
theorem d_Co_mostLiked_31 : decode I_Co_mostLiked.2.1 31 = .ok (.getfield 79, 3) := by decide +kernel
theorem d_Co_mostLiked_34 : decode I_Co_mostLiked.2.1 34 = .ok (.iload 4, 2) := by decide +kernel
theorem d_Co_mostLiked_36 : decode I_Co_mostLiked.2.1 36 = .ok (.iaload, 1) := by decide +kernel
theorem d_Co_mostLiked_37 : decode I_Co_mostLiked.2.1 37 = .ok (.istore_n 2, 1) := by decide +kernel
theorem d_Co_mostLiked_38 : decode I_Co_mostLiked.2.1 38 = .ok (.iload 4, 2) := by decide +kernel
theorem d_Co_mostLiked_40 : decode I_Co_mostLiked.2.1 40 = .ok (.istore_n 3, 1) := by decide +kernel
theorem d_Co_mostLiked_41 : decode I_Co_mostLiked.2.1 41 = .ok (.iinc 4 1, 3) := by decide +kernel
theorem d_Co_mostLiked_44 : decode I_Co_mostLiked.2.1 44 = .ok (.goto (-37), 3) := by decide +kernel
theorem d_Co_mostLiked_47 : decode I_Co_mostLiked.2.1 47 = .ok (.iload_n 3, 1) := by decide +kernel
theorem d_Co_mostLiked_48 : decode I_Co_mostLiked.2.1 48 = .ok (.iconst (-1), 1) := by decide +kernel
theorem d_Co_mostLiked_49 : decode I_Co_mostLiked.2.1 49 = .ok (.if_icmp .eq 11, 3) := by decide +kernel
theorem d_Co_mostLiked_52 : decode I_Co_mostLiked.2.1 52 = .ok (.aload_n 1, 1) := by decide +kernel
theorem d_Co_mostLiked_53 : decode I_Co_mostLiked.2.1 53 = .ok (.getfield 98, 3) := by decide +kernel
theorem d_Co_mostLiked_56 : decode I_Co_mostLiked.2.1 56 = .ok (.iconst (-1), 1) := by decide +kernel
theorem d_Co_mostLiked_57 : decode I_Co_mostLiked.2.1 57 = .ok (.if_icmp .ne 5, 3) := by decide +kernel
theorem d_Co_mostLiked_60 : decode I_Co_mostLiked.2.1 60 = .ok (.iload_n 3, 1) := by decide +kernel
theorem d_Co_mostLiked_61 : decode I_Co_mostLiked.2.1 61 = .ok (.ireturn, 1) := by decide +kernel
theorem d_Co_mostLiked_62 : decode I_Co_mostLiked.2.1 62 = .ok (.aload_n 1, 1) := by decide +kernel
theorem d_Co_mostLiked_63 : decode I_Co_mostLiked.2.1 63 = .ok (.getfield 79, 3) := by decide +kernel
theorem d_Co_mostLiked_66 : decode I_Co_mostLiked.2.1 66 = .ok (.aload_n 1, 1) := by decide +kernel
theorem d_Co_mostLiked_67 : decode I_Co_mostLiked.2.1 67 = .ok (.getfield 98, 3) := by decide +kernel
theorem d_Co_mostLiked_70 : decode I_Co_mostLiked.2.1 70 = .ok (.iaload, 1) := by decide +kernel
theorem d_Co_mostLiked_71 : decode I_Co_mostLiked.2.1 71 = .ok (.iload_n 2, 1) := by decide +kernel
theorem d_Co_mostLiked_72 : decode I_Co_mostLiked.2.1 72 = .ok (.if_icmp .ne 10, 3) := by decide +kernel
theorem d_Co_mostLiked_75 : decode I_Co_mostLiked.2.1 75 = .ok (.aload_n 1, 1) := by decide +kernel
theorem d_Co_mostLiked_76 : decode I_Co_mostLiked.2.1 76 = .ok (.getfield 98, 3) := by decide +kernel
theorem d_Co_mostLiked_79 : decode I_Co_mostLiked.2.1 79 = .ok (.goto 4, 3) := by decide +kernel
theorem d_Co_mostLiked_82 : decode I_Co_mostLiked.2.1 82 = .ok (.iload_n 3, 1) := by decide +kernel
theorem d_Co_mostLiked_83 : decode I_Co_mostLiked.2.1 83 = .ok (.ireturn, 1) := by decide +kernel
theorem d_He_init_0 : decode I_He_init.2.1 0 = .ok (.aload_n 0, 1) := by decide +kernel
theorem d_He_init_1 : decode I_He_init.2.1 1 = .ok (.invokespecial 3, 3) := by decide +kernel
theorem d_He_init_4 : decode I_He_init.2.1 4 = .ok (.aload_n 0, 1) := by decide +kernel
theorem d_He_init_5 : decode I_He_init.2.1 5 = .ok (.bipush 23, 2) := by decide +kernel
theorem d_He_init_7 : decode I_He_init.2.1 7 = .ok (.newarray .int, 2) := by decide +kernel
theorem d_He_init_9 : decode I_He_init.2.1 9 = .ok (.putfield 9, 3) := by decide +kernel
theorem d_He_init_12 : decode I_He_init.2.1 12 = .ok (.aload_n 0, 1) := by decide +kernel
theorem d_He_init_13 : decode I_He_init.2.1 13 = .ok (.bipush 18, 2) := by decide +kernel
theorem d_He_init_15 : decode I_He_init.2.1 15 = .ok (.newarray .int, 2) := by decide +kernel
theorem d_He_init_17 : decode I_He_init.2.1 17 = .ok (.putfield 15, 3) := by decide +kernel
theorem d_He_init_20 : decode I_He_init.2.1 20 = .ok (.aload_n 0, 1) := by decide +kernel
theorem d_He_init_21 : decode I_He_init.2.1 21 = .ok (.iconst (-1), 1) := by decide +kernel
theorem d_He_init_22 : decode I_He_init.2.1 22 = .ok (.putfield 18, 3) := by decide +kernel
theorem d_He_init_25 : decode I_He_init.2.1 25 = .ok (.return_, 1) := by decide +kernel
theorem d_He_has_0 : decode I_He_has.2.1 0 = .ok (.iload_n 1, 1) := by decide +kernel
theorem d_He_has_1 : decode I_He_has.2.1 1 = .ok (.ifCond .lt 15, 3) := by decide +kernel
theorem d_He_has_4 : decode I_He_has.2.1 4 = .ok (.iload_n 1, 1) := by decide +kernel
theorem d_He_has_5 : decode I_He_has.2.1 5 = .ok (.aload_n 0, 1) := by decide +kernel
theorem d_He_has_6 : decode I_He_has.2.1 6 = .ok (.getfield 22, 3) := by decide +kernel
theorem d_He_has_9 : decode I_He_has.2.1 9 = .ok (.if_icmp .ge 7, 3) := by decide +kernel
theorem d_He_has_12 : decode I_He_has.2.1 12 = .ok (.iconst 1, 1) := by decide +kernel
theorem d_He_has_13 : decode I_He_has.2.1 13 = .ok (.goto 4, 3) := by decide +kernel
theorem d_He_has_16 : decode I_He_has.2.1 16 = .ok (.iconst 0, 1) := by decide +kernel
theorem d_He_has_17 : decode I_He_has.2.1 17 = .ok (.ireturn, 1) := by decide +kernel
theorem d_He_understand_0 : decode I_He_understand.2.1 0 = .ok (.aload_n 0, 1) := by decide +kernel
theorem d_He_understand_1 : decode I_He_understand.2.1 1 = .ok (.aload_n 0, 1) := by decide +kernel
theorem d_He_understand_2 : decode I_He_understand.2.1 2 = .ok (.invokevirtual 25, 3) := by decide +kernel
theorem d_He_understand_5 : decode I_He_understand.2.1 5 = .ok (.putfield 18, 3) := by decide +kernel
theorem d_He_understand_8 : decode I_He_understand.2.1 8 = .ok (.aload_n 0, 1) := by decide +kernel
theorem d_He_understand_9 : decode I_He_understand.2.1 9 = .ok (.aload_n 0, 1) := by decide +kernel
theorem d_He_understand_10 : decode I_He_understand.2.1 10 = .ok (.getfield 18, 3) := by decide +kernel
theorem d_He_understand_13 : decode I_He_understand.2.1 13 = .ok (.iconst (-1), 1) := by decide +kernel
theorem d_He_understand_14 : decode I_He_understand.2.1 14 = .ok (.if_icmp .ne 14, 3) := by decide +kernel
theorem d_He_understand_17 : decode I_He_understand.2.1 17 = .ok (.aload_n 0, 1) := by decide +kernel
theorem d_He_understand_18 : decode I_He_understand.2.1 18 = .ok (.getfield 29, 3) := by decide +kernel
theorem d_He_understand_21 : decode I_He_understand.2.1 21 = .ok (.iconst 1, 1) := by decide +kernel
theorem d_He_understand_22 : decode I_He_understand.2.1 22 = .ok (.iadd, 1) := by decide +kernel
theorem d_He_understand_23 : decode I_He_understand.2.1 23 = .ok (.iconst 4, 1) := by decide +kernel
theorem d_He_understand_24 : decode I_He_understand.2.1 24 = .ok (.idiv, 1) := by decide +kernel
theorem d_He_understand_25 : decode I_He_understand.2.1 25 = .ok (.goto 4, 3) := by decide +kernel
theorem d_He_understand_28 : decode I_He_understand.2.1 28 = .ok (.iconst 0, 1) := by decide +kernel
theorem d_He_understand_29 : decode I_He_understand.2.1 29 = .ok (.putfield 22, 3) := by decide +kernel
theorem d_He_understand_32 : decode I_He_understand.2.1 32 = .ok (.iconst 0, 1) := by decide +kernel
theorem d_He_understand_33 : decode I_He_understand.2.1 33 = .ok (.istore_n 1, 1) := by decide +kernel
theorem d_He_understand_34 : decode I_He_understand.2.1 34 = .ok (.iload_n 1, 1) := by decide +kernel
theorem d_He_understand_35 : decode I_He_understand.2.1 35 = .ok (.aload_n 0, 1) := by decide +kernel
theorem d_He_understand_36 : decode I_He_understand.2.1 36 = .ok (.getfield 22, 3) := by decide +kernel
theorem d_He_understand_39 : decode I_He_understand.2.1 39 = .ok (.if_icmp .ge 45, 3) := by decide +kernel
theorem d_He_understand_42 : decode I_He_understand.2.1 42 = .ok (.iconst 0, 1) := by decide +kernel
theorem d_He_understand_43 : decode I_He_understand.2.1 43 = .ok (.istore_n 2, 1) := by decide +kernel
theorem d_He_understand_44 : decode I_He_understand.2.1 44 = .ok (.iload_n 2, 1) := by decide +kernel
theorem d_He_understand_45 : decode I_He_understand.2.1 45 = .ok (.iconst 3, 1) := by decide +kernel
theorem d_He_understand_46 : decode I_He_understand.2.1 46 = .ok (.if_icmp .ge 32, 3) := by decide +kernel
theorem d_He_understand_49 : decode I_He_understand.2.1 49 = .ok (.aload_n 0, 1) := by decide +kernel
theorem d_He_understand_50 : decode I_He_understand.2.1 50 = .ok (.getfield 15, 3) := by decide +kernel
theorem d_He_understand_53 : decode I_He_understand.2.1 53 = .ok (.iload_n 1, 1) := by decide +kernel
theorem d_He_understand_54 : decode I_He_understand.2.1 54 = .ok (.iconst 3, 1) := by decide +kernel
theorem d_He_understand_55 : decode I_He_understand.2.1 55 = .ok (.imul, 1) := by decide +kernel
theorem d_He_understand_56 : decode I_He_understand.2.1 56 = .ok (.iload_n 2, 1) := by decide +kernel
theorem d_He_understand_57 : decode I_He_understand.2.1 57 = .ok (.iadd, 1) := by decide +kernel
theorem d_He_understand_58 : decode I_He_understand.2.1 58 = .ok (.aload_n 0, 1) := by decide +kernel
theorem d_He_understand_59 : decode I_He_understand.2.1 59 = .ok (.getfield 9, 3) := by decide +kernel
theorem d_He_understand_62 : decode I_He_understand.2.1 62 = .ok (.iload_n 1, 1) := by decide +kernel
theorem d_He_understand_63 : decode I_He_understand.2.1 63 = .ok (.iconst 4, 1) := by decide +kernel
theorem d_He_understand_64 : decode I_He_understand.2.1 64 = .ok (.imul, 1) := by decide +kernel
theorem d_He_understand_65 : decode I_He_understand.2.1 65 = .ok (.iload_n 2, 1) := by decide +kernel
theorem d_He_understand_66 : decode I_He_understand.2.1 66 = .ok (.iadd, 1) := by decide +kernel
theorem d_He_understand_67 : decode I_He_understand.2.1 67 = .ok (.iaload, 1) := by decide +kernel
theorem d_He_understand_68 : decode I_He_understand.2.1 68 = .ok (.bipush 48, 2) := by decide +kernel
theorem d_He_understand_70 : decode I_He_understand.2.1 70 = .ok (.isub, 1) := by decide +kernel
theorem d_He_understand_71 : decode I_He_understand.2.1 71 = .ok (.iastore, 1) := by decide +kernel
theorem d_He_understand_72 : decode I_He_understand.2.1 72 = .ok (.iinc 2 1, 3) := by decide +kernel
theorem d_He_understand_75 : decode I_He_understand.2.1 75 = .ok (.goto (-31), 3) := by decide +kernel
theorem d_He_understand_78 : decode I_He_understand.2.1 78 = .ok (.iinc 1 1, 3) := by decide +kernel
theorem d_He_understand_81 : decode I_He_understand.2.1 81 = .ok (.goto (-47), 3) := by decide +kernel
theorem d_He_understand_84 : decode I_He_understand.2.1 84 = .ok (.return_, 1) := by decide +kernel
theorem d_He_firstFault_0 : decode I_He_firstFault.2.1 0 = .ok (.iconst 0, 1) := by decide +kernel
theorem d_He_firstFault_1 : decode I_He_firstFault.2.1 1 = .ok (.istore_n 1, 1) := by decide +kernel
theorem d_He_firstFault_2 : decode I_He_firstFault.2.1 2 = .ok (.iload_n 1, 1) := by decide +kernel
theorem d_He_firstFault_3 : decode I_He_firstFault.2.1 3 = .ok (.aload_n 0, 1) := by decide +kernel
theorem d_He_firstFault_4 : decode I_He_firstFault.2.1 4 = .ok (.getfield 29, 3) := by decide +kernel
theorem d_He_firstFault_7 : decode I_He_firstFault.2.1 7 = .ok (.if_icmp .ge 79, 3) := by decide +kernel
theorem d_He_firstFault_10 : decode I_He_firstFault.2.1 10 = .ok (.iload_n 1, 1) := by decide +kernel
theorem d_He_firstFault_11 : decode I_He_firstFault.2.1 11 = .ok (.iconst 4, 1) := by decide +kernel
theorem d_He_firstFault_12 : decode I_He_firstFault.2.1 12 = .ok (.irem, 1) := by decide +kernel
theorem d_He_firstFault_13 : decode I_He_firstFault.2.1 13 = .ok (.iconst 3, 1) := by decide +kernel
theorem d_He_firstFault_14 : decode I_He_firstFault.2.1 14 = .ok (.if_icmp .ne 7, 3) := by decide +kernel
theorem d_He_firstFault_17 : decode I_He_firstFault.2.1 17 = .ok (.iconst 1, 1) := by decide +kernel
theorem d_He_firstFault_18 : decode I_He_firstFault.2.1 18 = .ok (.goto 4, 3) := by decide +kernel
theorem d_He_firstFault_21 : decode I_He_firstFault.2.1 21 = .ok (.iconst 0, 1) := by decide +kernel
theorem d_He_firstFault_22 : decode I_He_firstFault.2.1 22 = .ok (.istore_n 2, 1) := by decide +kernel
theorem d_He_firstFault_23 : decode I_He_firstFault.2.1 23 = .ok (.iload_n 2, 1) := by decide +kernel
theorem d_He_firstFault_24 : decode I_He_firstFault.2.1 24 = .ok (.ifCond .eq 22, 3) := by decide +kernel
theorem d_He_firstFault_27 : decode I_He_firstFault.2.1 27 = .ok (.aload_n 0, 1) := by decide +kernel
theorem d_He_firstFault_28 : decode I_He_firstFault.2.1 28 = .ok (.getfield 9, 3) := by decide +kernel
theorem d_He_firstFault_31 : decode I_He_firstFault.2.1 31 = .ok (.iload_n 1, 1) := by decide +kernel
theorem d_He_firstFault_32 : decode I_He_firstFault.2.1 32 = .ok (.iaload, 1) := by decide +kernel
theorem d_He_firstFault_33 : decode I_He_firstFault.2.1 33 = .ok (.bipush 59, 2) := by decide +kernel
theorem d_He_firstFault_35 : decode I_He_firstFault.2.1 35 = .ok (.if_icmp .ne 7, 3) := by decide +kernel
theorem d_He_firstFault_38 : decode I_He_firstFault.2.1 38 = .ok (.iconst 1, 1) := by decide +kernel
theorem d_He_firstFault_39 : decode I_He_firstFault.2.1 39 = .ok (.goto 34, 3) := by decide +kernel
theorem d_He_firstFault_42 : decode I_He_firstFault.2.1 42 = .ok (.iconst 0, 1) := by decide +kernel
theorem d_He_firstFault_43 : decode I_He_firstFault.2.1 43 = .ok (.goto 30, 3) := by decide +kernel
theorem d_He_firstFault_46 : decode I_He_firstFault.2.1 46 = .ok (.aload_n 0, 1) := by decide +kernel
theorem d_He_firstFault_47 : decode I_He_firstFault.2.1 47 = .ok (.getfield 9, 3) := by decide +kernel
theorem d_He_firstFault_50 : decode I_He_firstFault.2.1 50 = .ok (.iload_n 1, 1) := by decide +kernel
theorem d_He_firstFault_51 : decode I_He_firstFault.2.1 51 = .ok (.iaload, 1) := by decide +kernel
theorem d_He_firstFault_52 : decode I_He_firstFault.2.1 52 = .ok (.bipush 48, 2) := by decide +kernel
theorem d_He_firstFault_54 : decode I_He_firstFault.2.1 54 = .ok (.if_icmp .lt 18, 3) := by decide +kernel
theorem d_He_firstFault_57 : decode I_He_firstFault.2.1 57 = .ok (.aload_n 0, 1) := by decide +kernel
theorem d_He_firstFault_58 : decode I_He_firstFault.2.1 58 = .ok (.getfield 9, 3) := by decide +kernel
theorem d_He_firstFault_61 : decode I_He_firstFault.2.1 61 = .ok (.iload_n 1, 1) := by decide +kernel
theorem d_He_firstFault_62 : decode I_He_firstFault.2.1 62 = .ok (.iaload, 1) := by decide +kernel
theorem d_He_firstFault_63 : decode I_He_firstFault.2.1 63 = .ok (.bipush 57, 2) := by decide +kernel
theorem d_He_firstFault_65 : decode I_He_firstFault.2.1 65 = .ok (.if_icmp .gt 7, 3) := by decide +kernel
theorem d_He_firstFault_68 : decode I_He_firstFault.2.1 68 = .ok (.iconst 1, 1) := by decide +kernel
theorem d_He_firstFault_69 : decode I_He_firstFault.2.1 69 = .ok (.goto 4, 3) := by decide +kernel
theorem d_He_firstFault_72 : decode I_He_firstFault.2.1 72 = .ok (.iconst 0, 1) := by decide +kernel
theorem d_He_firstFault_73 : decode I_He_firstFault.2.1 73 = .ok (.istore_n 3, 1) := by decide +kernel
theorem d_He_firstFault_74 : decode I_He_firstFault.2.1 74 = .ok (.iload_n 3, 1) := by decide +kernel
theorem d_He_firstFault_75 : decode I_He_firstFault.2.1 75 = .ok (.ifCond .ne 5, 3) := by decide +kernel
theorem d_He_firstFault_78 : decode I_He_firstFault.2.1 78 = .ok (.iload_n 1, 1) := by decide +kernel
theorem d_He_firstFault_79 : decode I_He_firstFault.2.1 79 = .ok (.ireturn, 1) := by decide +kernel
theorem d_He_firstFault_80 : decode I_He_firstFault.2.1 80 = .ok (.iinc 1 1, 3) := by decide +kernel
theorem d_He_firstFault_83 : decode I_He_firstFault.2.1 83 = .ok (.goto (-81), 3) := by decide +kernel
theorem d_He_firstFault_86 : decode I_He_firstFault.2.1 86 = .ok (.aload_n 0, 1) := by decide +kernel
theorem d_He_firstFault_87 : decode I_He_firstFault.2.1 87 = .ok (.getfield 29, 3) := by decide +kernel
theorem d_He_firstFault_90 : decode I_He_firstFault.2.1 90 = .ok (.ifCond .eq 13, 3) := by decide +kernel
theorem d_He_firstFault_93 : decode I_He_firstFault.2.1 93 = .ok (.aload_n 0, 1) := by decide +kernel
theorem d_He_firstFault_94 : decode I_He_firstFault.2.1 94 = .ok (.getfield 29, 3) := by decide +kernel
theorem d_He_firstFault_97 : decode I_He_firstFault.2.1 97 = .ok (.iconst 4, 1) := by decide +kernel
theorem d_He_firstFault_98 : decode I_He_firstFault.2.1 98 = .ok (.irem, 1) := by decide +kernel
theorem d_He_firstFault_99 : decode I_He_firstFault.2.1 99 = .ok (.iconst 3, 1) := by decide +kernel
theorem d_He_firstFault_100 : decode I_He_firstFault.2.1 100 = .ok (.if_icmp .ne 7, 3) := by decide +kernel
theorem d_He_firstFault_103 : decode I_He_firstFault.2.1 103 = .ok (.iconst 1, 1) := by decide +kernel
theorem d_He_firstFault_104 : decode I_He_firstFault.2.1 104 = .ok (.goto 4, 3) := by decide +kernel
theorem d_He_firstFault_107 : decode I_He_firstFault.2.1 107 = .ok (.iconst 0, 1) := by decide +kernel
theorem d_He_firstFault_108 : decode I_He_firstFault.2.1 108 = .ok (.istore_n 1, 1) := by decide +kernel
theorem d_He_firstFault_109 : decode I_He_firstFault.2.1 109 = .ok (.iload_n 1, 1) := by decide +kernel
theorem d_He_firstFault_110 : decode I_He_firstFault.2.1 110 = .ok (.ifCond .eq 7, 3) := by decide +kernel
theorem d_He_firstFault_113 : decode I_He_firstFault.2.1 113 = .ok (.iconst (-1), 1) := by decide +kernel
theorem d_He_firstFault_114 : decode I_He_firstFault.2.1 114 = .ok (.goto 7, 3) := by decide +kernel
theorem d_He_firstFault_117 : decode I_He_firstFault.2.1 117 = .ok (.aload_n 0, 1) := by decide +kernel
theorem d_He_firstFault_118 : decode I_He_firstFault.2.1 118 = .ok (.getfield 29, 3) := by decide +kernel
theorem d_He_firstFault_121 : decode I_He_firstFault.2.1 121 = .ok (.ireturn, 1) := by decide +kernel
theorem d_Mo_init_0 : decode I_Mo_init.2.1 0 = .ok (.aload_n 0, 1) := by decide +kernel
theorem d_Mo_init_1 : decode I_Mo_init.2.1 1 = .ok (.invokespecial 3, 3) := by decide +kernel
theorem d_Mo_init_4 : decode I_Mo_init.2.1 4 = .ok (.aload_n 0, 1) := by decide +kernel
theorem d_Mo_init_5 : decode I_Mo_init.2.1 5 = .ok (.bipush 6, 2) := by decide +kernel
theorem d_Mo_init_7 : decode I_Mo_init.2.1 7 = .ok (.newarray .int, 2) := by decide +kernel
theorem d_Mo_init_9 : decode I_Mo_init.2.1 9 = .ok (.putfield 9, 3) := by decide +kernel
theorem d_Mo_init_12 : decode I_Mo_init.2.1 12 = .ok (.aload_n 0, 1) := by decide +kernel
theorem d_Mo_init_13 : decode I_Mo_init.2.1 13 = .ok (.bipush 6, 2) := by decide +kernel
theorem d_Mo_init_15 : decode I_Mo_init.2.1 15 = .ok (.newarray .int, 2) := by decide +kernel
theorem d_Mo_init_17 : decode I_Mo_init.2.1 17 = .ok (.putfield 15, 3) := by decide +kernel
theorem d_Mo_init_20 : decode I_Mo_init.2.1 20 = .ok (.aload_n 0, 1) := by decide +kernel
theorem d_Mo_init_21 : decode I_Mo_init.2.1 21 = .ok (.iconst 3, 1) := by decide +kernel
theorem d_Mo_init_22 : decode I_Mo_init.2.1 22 = .ok (.newarray .int, 2) := by decide +kernel
theorem d_Mo_init_24 : decode I_Mo_init.2.1 24 = .ok (.putfield 18, 3) := by decide +kernel
theorem d_Mo_init_27 : decode I_Mo_init.2.1 27 = .ok (.return_, 1) := by decide +kernel
theorem d_Mo_begin_0 : decode I_Mo_begin.2.1 0 = .ok (.aload_n 0, 1) := by decide +kernel
theorem d_Mo_begin_1 : decode I_Mo_begin.2.1 1 = .ok (.iload_n 2, 1) := by decide +kernel
theorem d_Mo_begin_2 : decode I_Mo_begin.2.1 2 = .ok (.putfield 21, 3) := by decide +kernel
theorem d_Mo_begin_5 : decode I_Mo_begin.2.1 5 = .ok (.aload_n 0, 1) := by decide +kernel
theorem d_Mo_begin_6 : decode I_Mo_begin.2.1 6 = .ok (.iconst 0, 1) := by decide +kernel
theorem d_Mo_begin_7 : decode I_Mo_begin.2.1 7 = .ok (.putfield 25, 3) := by decide +kernel
theorem d_Mo_begin_10 : decode I_Mo_begin.2.1 10 = .ok (.aload_n 0, 1) := by decide +kernel
theorem d_Mo_begin_11 : decode I_Mo_begin.2.1 11 = .ok (.bipush (-100), 2) := by decide +kernel
theorem d_Mo_begin_13 : decode I_Mo_begin.2.1 13 = .ok (.putfield 28, 3) := by decide +kernel
theorem d_Mo_begin_16 : decode I_Mo_begin.2.1 16 = .ok (.aload_n 0, 1) := by decide +kernel
theorem d_Mo_begin_17 : decode I_Mo_begin.2.1 17 = .ok (.iconst (-1), 1) := by decide +kernel
theorem d_Mo_begin_18 : decode I_Mo_begin.2.1 18 = .ok (.putfield 31, 3) := by decide +kernel
theorem d_Mo_begin_21 : decode I_Mo_begin.2.1 21 = .ok (.iconst 0, 1) := by decide +kernel
theorem d_Mo_begin_22 : decode I_Mo_begin.2.1 22 = .ok (.istore_n 3, 1) := by decide +kernel
theorem d_Mo_begin_23 : decode I_Mo_begin.2.1 23 = .ok (.iload_n 3, 1) := by decide +kernel
theorem d_Mo_begin_24 : decode I_Mo_begin.2.1 24 = .ok (.iconst 3, 1) := by decide +kernel
theorem d_Mo_begin_25 : decode I_Mo_begin.2.1 25 = .ok (.if_icmp .ge 18, 3) := by decide +kernel
theorem d_Mo_begin_28 : decode I_Mo_begin.2.1 28 = .ok (.aload_n 0, 1) := by decide +kernel
theorem d_Mo_begin_29 : decode I_Mo_begin.2.1 29 = .ok (.getfield 18, 3) := by decide +kernel
theorem d_Mo_begin_32 : decode I_Mo_begin.2.1 32 = .ok (.iload_n 3, 1) := by decide +kernel
theorem d_Mo_begin_33 : decode I_Mo_begin.2.1 33 = .ok (.aload_n 1, 1) := by decide +kernel
theorem d_Mo_begin_34 : decode I_Mo_begin.2.1 34 = .ok (.iload_n 3, 1) := by decide +kernel
theorem d_Mo_begin_35 : decode I_Mo_begin.2.1 35 = .ok (.iaload, 1) := by decide +kernel
theorem d_Mo_begin_36 : decode I_Mo_begin.2.1 36 = .ok (.iastore, 1) := by decide +kernel
theorem d_Mo_begin_37 : decode I_Mo_begin.2.1 37 = .ok (.iinc 3 1, 3) := by decide +kernel
theorem d_Mo_begin_40 : decode I_Mo_begin.2.1 40 = .ok (.goto (-17), 3) := by decide +kernel
theorem d_Mo_begin_43 : decode I_Mo_begin.2.1 43 = .ok (.iconst 0, 1) := by decide +kernel
theorem d_Mo_begin_44 : decode I_Mo_begin.2.1 44 = .ok (.istore_n 3, 1) := by decide +kernel
theorem d_Mo_begin_45 : decode I_Mo_begin.2.1 45 = .ok (.iload_n 3, 1) := by decide +kernel
theorem d_Mo_begin_46 : decode I_Mo_begin.2.1 46 = .ok (.bipush 6, 2) := by decide +kernel
theorem d_Mo_begin_48 : decode I_Mo_begin.2.1 48 = .ok (.if_icmp .ge 23, 3) := by decide +kernel
theorem d_Mo_begin_51 : decode I_Mo_begin.2.1 51 = .ok (.aload_n 0, 1) := by decide +kernel
theorem d_Mo_begin_52 : decode I_Mo_begin.2.1 52 = .ok (.getfield 9, 3) := by decide +kernel
theorem d_Mo_begin_55 : decode I_Mo_begin.2.1 55 = .ok (.iload_n 3, 1) := by decide +kernel
theorem d_Mo_begin_56 : decode I_Mo_begin.2.1 56 = .ok (.iconst 0, 1) := by decide +kernel
theorem d_Mo_begin_57 : decode I_Mo_begin.2.1 57 = .ok (.iastore, 1) := by decide +kernel
theorem d_Mo_begin_58 : decode I_Mo_begin.2.1 58 = .ok (.aload_n 0, 1) := by decide +kernel
theorem d_Mo_begin_59 : decode I_Mo_begin.2.1 59 = .ok (.getfield 15, 3) := by decide +kernel
theorem d_Mo_begin_62 : decode I_Mo_begin.2.1 62 = .ok (.iload_n 3, 1) := by decide +kernel
theorem d_Mo_begin_63 : decode I_Mo_begin.2.1 63 = .ok (.iconst (-1), 1) := by decide +kernel
theorem d_Mo_begin_64 : decode I_Mo_begin.2.1 64 = .ok (.iastore, 1) := by decide +kernel
theorem d_Mo_begin_65 : decode I_Mo_begin.2.1 65 = .ok (.iinc 3 1, 3) := by decide +kernel
theorem d_Mo_begin_68 : decode I_Mo_begin.2.1 68 = .ok (.goto (-23), 3) := by decide +kernel
theorem d_Mo_begin_71 : decode I_Mo_begin.2.1 71 = .ok (.return_, 1) := by decide +kernel
theorem d_Mo_become_0 : decode I_Mo_become.2.1 0 = .ok (.aload_n 0, 1) := by decide +kernel
theorem d_Mo_become_1 : decode I_Mo_become.2.1 1 = .ok (.aload_n 1, 1) := by decide +kernel
theorem d_Mo_become_2 : decode I_Mo_become.2.1 2 = .ok (.getfield 21, 3) := by decide +kernel
theorem d_Mo_become_5 : decode I_Mo_become.2.1 5 = .ok (.putfield 21, 3) := by decide +kernel
theorem d_Mo_become_8 : decode I_Mo_become.2.1 8 = .ok (.aload_n 0, 1) := by decide +kernel
theorem d_Mo_become_9 : decode I_Mo_become.2.1 9 = .ok (.aload_n 1, 1) := by decide +kernel
theorem d_Mo_become_10 : decode I_Mo_become.2.1 10 = .ok (.getfield 25, 3) := by decide +kernel
theorem d_Mo_become_13 : decode I_Mo_become.2.1 13 = .ok (.putfield 25, 3) := by decide +kernel
theorem d_Mo_become_16 : decode I_Mo_become.2.1 16 = .ok (.aload_n 0, 1) := by decide +kernel
theorem d_Mo_become_17 : decode I_Mo_become.2.1 17 = .ok (.aload_n 1, 1) := by decide +kernel
theorem d_Mo_become_18 : decode I_Mo_become.2.1 18 = .ok (.getfield 28, 3) := by decide +kernel
theorem d_Mo_become_21 : decode I_Mo_become.2.1 21 = .ok (.putfield 28, 3) := by decide +kernel
theorem d_Mo_become_24 : decode I_Mo_become.2.1 24 = .ok (.aload_n 0, 1) := by decide +kernel
theorem d_Mo_become_25 : decode I_Mo_become.2.1 25 = .ok (.aload_n 1, 1) := by decide +kernel
theorem d_Mo_become_26 : decode I_Mo_become.2.1 26 = .ok (.getfield 31, 3) := by decide +kernel
theorem d_Mo_become_29 : decode I_Mo_become.2.1 29 = .ok (.putfield 31, 3) := by decide +kernel
theorem d_Mo_become_32 : decode I_Mo_become.2.1 32 = .ok (.aload_n 1, 1) := by decide +kernel
theorem d_Mo_become_33 : decode I_Mo_become.2.1 33 = .ok (.getfield 18, 3) := by decide +kernel
theorem d_Mo_become_36 : decode I_Mo_become.2.1 36 = .ok (.iconst 0, 1) := by decide +kernel
theorem d_Mo_become_37 : decode I_Mo_become.2.1 37 = .ok (.aload_n 0, 1) := by decide +kernel
theorem d_Mo_become_38 : decode I_Mo_become.2.1 38 = .ok (.getfield 18, 3) := by decide +kernel
theorem d_Mo_become_41 : decode I_Mo_become.2.1 41 = .ok (.iconst 0, 1) := by decide +kernel
theorem d_Mo_become_42 : decode I_Mo_become.2.1 42 = .ok (.iconst 3, 1) := by decide +kernel
theorem d_Mo_become_43 : decode I_Mo_become.2.1 43 = .ok (.invokestatic 34, 3) := by decide +kernel
theorem d_Mo_become_46 : decode I_Mo_become.2.1 46 = .ok (.aload_n 1, 1) := by decide +kernel
theorem d_Mo_become_47 : decode I_Mo_become.2.1 47 = .ok (.getfield 9, 3) := by decide +kernel
theorem d_Mo_become_50 : decode I_Mo_become.2.1 50 = .ok (.iconst 0, 1) := by decide +kernel
theorem d_Mo_become_51 : decode I_Mo_become.2.1 51 = .ok (.aload_n 0, 1) := by decide +kernel
theorem d_Mo_become_52 : decode I_Mo_become.2.1 52 = .ok (.getfield 9, 3) := by decide +kernel
theorem d_Mo_become_55 : decode I_Mo_become.2.1 55 = .ok (.iconst 0, 1) := by decide +kernel
theorem d_Mo_become_56 : decode I_Mo_become.2.1 56 = .ok (.bipush 6, 2) := by decide +kernel
theorem d_Mo_become_58 : decode I_Mo_become.2.1 58 = .ok (.invokestatic 34, 3) := by decide +kernel
theorem d_Mo_become_61 : decode I_Mo_become.2.1 61 = .ok (.aload_n 1, 1) := by decide +kernel
theorem d_Mo_become_62 : decode I_Mo_become.2.1 62 = .ok (.getfield 15, 3) := by decide +kernel
theorem d_Mo_become_65 : decode I_Mo_become.2.1 65 = .ok (.iconst 0, 1) := by decide +kernel
theorem d_Mo_become_66 : decode I_Mo_become.2.1 66 = .ok (.aload_n 0, 1) := by decide +kernel
theorem d_Mo_become_67 : decode I_Mo_become.2.1 67 = .ok (.getfield 15, 3) := by decide +kernel
theorem d_Mo_become_70 : decode I_Mo_become.2.1 70 = .ok (.iconst 0, 1) := by decide +kernel
theorem d_Mo_become_71 : decode I_Mo_become.2.1 71 = .ok (.bipush 6, 2) := by decide +kernel
theorem d_Mo_become_73 : decode I_Mo_become.2.1 73 = .ok (.invokestatic 34, 3) := by decide +kernel
theorem d_Mo_become_76 : decode I_Mo_become.2.1 76 = .ok (.return_, 1) := by decide +kernel
theorem d_Se_init_0 : decode I_Se_init.2.1 0 = .ok (.aload_n 0, 1) := by decide +kernel
theorem d_Se_init_1 : decode I_Se_init.2.1 1 = .ok (.invokespecial 3, 3) := by decide +kernel
theorem d_Se_init_4 : decode I_Se_init.2.1 4 = .ok (.aload_n 0, 1) := by decide +kernel
theorem d_Se_init_5 : decode I_Se_init.2.1 5 = .ok (.bipush 30, 2) := by decide +kernel
theorem d_Se_init_7 : decode I_Se_init.2.1 7 = .ok (.newarray .int, 2) := by decide +kernel
theorem d_Se_init_9 : decode I_Se_init.2.1 9 = .ok (.putfield 9, 3) := by decide +kernel
theorem d_Se_init_12 : decode I_Se_init.2.1 12 = .ok (.aload_n 0, 1) := by decide +kernel
theorem d_Se_init_13 : decode I_Se_init.2.1 13 = .ok (.invokevirtual 15, 3) := by decide +kernel
theorem d_Se_init_16 : decode I_Se_init.2.1 16 = .ok (.return_, 1) := by decide +kernel
theorem d_Se_clear_0 : decode I_Se_clear.2.1 0 = .ok (.aload_n 0, 1) := by decide +kernel
theorem d_Se_clear_1 : decode I_Se_clear.2.1 1 = .ok (.iconst 0, 1) := by decide +kernel
theorem d_Se_clear_2 : decode I_Se_clear.2.1 2 = .ok (.putfield 18, 3) := by decide +kernel
theorem d_Se_clear_5 : decode I_Se_clear.2.1 5 = .ok (.aload_n 0, 1) := by decide +kernel
theorem d_Se_clear_6 : decode I_Se_clear.2.1 6 = .ok (.iconst (-1), 1) := by decide +kernel
theorem d_Se_clear_7 : decode I_Se_clear.2.1 7 = .ok (.putfield 22, 3) := by decide +kernel
theorem d_Se_clear_10 : decode I_Se_clear.2.1 10 = .ok (.aload_n 0, 1) := by decide +kernel
theorem d_Se_clear_11 : decode I_Se_clear.2.1 11 = .ok (.iconst 0, 1) := by decide +kernel
theorem d_Se_clear_12 : decode I_Se_clear.2.1 12 = .ok (.putfield 25, 3) := by decide +kernel
theorem d_Se_clear_15 : decode I_Se_clear.2.1 15 = .ok (.iconst 0, 1) := by decide +kernel
theorem d_Se_clear_16 : decode I_Se_clear.2.1 16 = .ok (.istore_n 1, 1) := by decide +kernel
theorem d_Se_clear_17 : decode I_Se_clear.2.1 17 = .ok (.iload_n 1, 1) := by decide +kernel
theorem d_Se_clear_18 : decode I_Se_clear.2.1 18 = .ok (.bipush 30, 2) := by decide +kernel
theorem d_Se_clear_20 : decode I_Se_clear.2.1 20 = .ok (.if_icmp .ge 17, 3) := by decide +kernel
theorem d_Se_clear_23 : decode I_Se_clear.2.1 23 = .ok (.aload_n 0, 1) := by decide +kernel
theorem d_Se_clear_24 : decode I_Se_clear.2.1 24 = .ok (.getfield 9, 3) := by decide +kernel
theorem d_Se_clear_27 : decode I_Se_clear.2.1 27 = .ok (.iload_n 1, 1) := by decide +kernel
theorem d_Se_clear_28 : decode I_Se_clear.2.1 28 = .ok (.bipush (-2), 2) := by decide +kernel
theorem d_Se_clear_30 : decode I_Se_clear.2.1 30 = .ok (.iastore, 1) := by decide +kernel
theorem d_Se_clear_31 : decode I_Se_clear.2.1 31 = .ok (.iinc 1 1, 3) := by decide +kernel
theorem d_Se_clear_34 : decode I_Se_clear.2.1 34 = .ok (.goto (-17), 3) := by decide +kernel
theorem d_Se_clear_37 : decode I_Se_clear.2.1 37 = .ok (.return_, 1) := by decide +kernel
theorem d_Se_add_0 : decode I_Se_add.2.1 0 = .ok (.aload_n 0, 1) := by decide +kernel
theorem d_Se_add_1 : decode I_Se_add.2.1 1 = .ok (.iload_n 1, 1) := by decide +kernel
theorem d_Se_add_2 : decode I_Se_add.2.1 2 = .ok (.iload_n 2, 1) := by decide +kernel
theorem d_Se_add_3 : decode I_Se_add.2.1 3 = .ok (.invokevirtual 29, 3) := by decide +kernel
theorem d_Se_add_6 : decode I_Se_add.2.1 6 = .ok (.ifCond .ne 8, 3) := by decide +kernel
theorem d_Se_add_9 : decode I_Se_add.2.1 9 = .ok (.aload_n 0, 1) := by decide +kernel
theorem d_Se_add_10 : decode I_Se_add.2.1 10 = .ok (.iconst 1, 1) := by decide +kernel
theorem d_Se_add_11 : decode I_Se_add.2.1 11 = .ok (.putfield 25, 3) := by decide +kernel
theorem d_Se_add_14 : decode I_Se_add.2.1 14 = .ok (.aload_n 0, 1) := by decide +kernel
theorem d_Se_add_15 : decode I_Se_add.2.1 15 = .ok (.getfield 9, 3) := by decide +kernel
theorem d_Se_add_18 : decode I_Se_add.2.1 18 = .ok (.iload_n 1, 1) := by decide +kernel
theorem d_Se_add_19 : decode I_Se_add.2.1 19 = .ok (.iload_n 2, 1) := by decide +kernel
theorem d_Se_add_20 : decode I_Se_add.2.1 20 = .ok (.iastore, 1) := by decide +kernel
theorem d_Se_add_21 : decode I_Se_add.2.1 21 = .ok (.aload_n 0, 1) := by decide +kernel
theorem d_Se_add_22 : decode I_Se_add.2.1 22 = .ok (.aload_n 0, 1) := by decide +kernel
theorem d_Se_add_23 : decode I_Se_add.2.1 23 = .ok (.getfield 22, 3) := by decide +kernel
theorem d_Se_add_26 : decode I_Se_add.2.1 26 = .ok (.iload_n 1, 1) := by decide +kernel
theorem d_Se_add_27 : decode I_Se_add.2.1 27 = .ok (.invokestatic 33, 3) := by decide +kernel
theorem d_Se_add_30 : decode I_Se_add.2.1 30 = .ok (.putfield 22, 3) := by decide +kernel
theorem d_Se_add_33 : decode I_Se_add.2.1 33 = .ok (.aload_n 0, 1) := by decide +kernel
theorem d_Se_add_34 : decode I_Se_add.2.1 34 = .ok (.dup, 1) := by decide +kernel
theorem d_Se_add_35 : decode I_Se_add.2.1 35 = .ok (.getfield 18, 3) := by decide +kernel
theorem d_Se_add_38 : decode I_Se_add.2.1 38 = .ok (.iconst 1, 1) := by decide +kernel
theorem d_Se_add_39 : decode I_Se_add.2.1 39 = .ok (.iadd, 1) := by decide +kernel
theorem d_Se_add_40 : decode I_Se_add.2.1 40 = .ok (.putfield 18, 3) := by decide +kernel
theorem d_Se_add_43 : decode I_Se_add.2.1 43 = .ok (.return_, 1) := by decide +kernel
theorem d_Se_allows_0 : decode I_Se_allows.2.1 0 = .ok (.aload_n 0, 1) := by decide +kernel
theorem d_Se_allows_1 : decode I_Se_allows.2.1 1 = .ok (.getfield 9, 3) := by decide +kernel
theorem d_Se_allows_4 : decode I_Se_allows.2.1 4 = .ok (.iload_n 1, 1) := by decide +kernel
theorem d_Se_allows_5 : decode I_Se_allows.2.1 5 = .ok (.iaload, 1) := by decide +kernel
theorem d_Se_allows_6 : decode I_Se_allows.2.1 6 = .ok (.bipush (-2), 2) := by decide +kernel
theorem d_Se_allows_8 : decode I_Se_allows.2.1 8 = .ok (.if_icmp .eq 13, 3) := by decide +kernel
theorem d_Se_allows_11 : decode I_Se_allows.2.1 11 = .ok (.aload_n 0, 1) := by decide +kernel
theorem d_Se_allows_12 : decode I_Se_allows.2.1 12 = .ok (.getfield 9, 3) := by decide +kernel
theorem d_Se_allows_15 : decode I_Se_allows.2.1 15 = .ok (.iload_n 1, 1) := by decide +kernel
theorem d_Se_allows_16 : decode I_Se_allows.2.1 16 = .ok (.iaload, 1) := by decide +kernel
theorem d_Se_allows_17 : decode I_Se_allows.2.1 17 = .ok (.iload_n 2, 1) := by decide +kernel
theorem d_Se_allows_18 : decode I_Se_allows.2.1 18 = .ok (.if_icmp .ne 7, 3) := by decide +kernel
theorem d_Se_allows_21 : decode I_Se_allows.2.1 21 = .ok (.iconst 1, 1) := by decide +kernel
theorem d_Se_allows_22 : decode I_Se_allows.2.1 22 = .ok (.goto 4, 3) := by decide +kernel
theorem d_Se_allows_25 : decode I_Se_allows.2.1 25 = .ok (.iconst 0, 1) := by decide +kernel
theorem d_Se_allows_26 : decode I_Se_allows.2.1 26 = .ok (.ireturn, 1) := by decide +kernel
theorem d_Sh_init_0 : decode I_Sh_init.2.1 0 = .ok (.aload_n 0, 1) := by decide +kernel
theorem d_Sh_init_1 : decode I_Sh_init.2.1 1 = .ok (.invokespecial 3, 3) := by decide +kernel
theorem d_Sh_init_4 : decode I_Sh_init.2.1 4 = .ok (.aload_n 0, 1) := by decide +kernel
theorem d_Sh_init_5 : decode I_Sh_init.2.1 5 = .ok (.iconst 4, 1) := by decide +kernel
theorem d_Sh_init_6 : decode I_Sh_init.2.1 6 = .ok (.newarray .int, 2) := by decide +kernel
theorem d_Sh_init_8 : decode I_Sh_init.2.1 8 = .ok (.putfield 11, 3) := by decide +kernel
theorem d_Sh_init_11 : decode I_Sh_init.2.1 11 = .ok (.aload_n 0, 1) := by decide +kernel
theorem d_Sh_init_12 : decode I_Sh_init.2.1 12 = .ok (.iconst 4, 1) := by decide +kernel
theorem d_Sh_init_13 : decode I_Sh_init.2.1 13 = .ok (.newarray .int, 2) := by decide +kernel
theorem d_Sh_init_15 : decode I_Sh_init.2.1 15 = .ok (.putfield 15, 3) := by decide +kernel
theorem d_Sh_init_18 : decode I_Sh_init.2.1 18 = .ok (.aload_n 0, 1) := by decide +kernel
theorem d_Sh_init_19 : decode I_Sh_init.2.1 19 = .ok (.iconst 4, 1) := by decide +kernel
theorem d_Sh_init_20 : decode I_Sh_init.2.1 20 = .ok (.bipush 48, 2) := by decide +kernel
theorem d_Sh_init_22 : decode I_Sh_init.2.1 22 = .ok (.multianewarray 18 2, 4) := by decide +kernel
theorem d_Sh_init_26 : decode I_Sh_init.2.1 26 = .ok (.putfield 20, 3) := by decide +kernel
theorem d_Sh_init_29 : decode I_Sh_init.2.1 29 = .ok (.iconst 0, 1) := by decide +kernel
theorem d_Sh_init_30 : decode I_Sh_init.2.1 30 = .ok (.istore_n 1, 1) := by decide +kernel
theorem d_Sh_init_31 : decode I_Sh_init.2.1 31 = .ok (.iload_n 1, 1) := by decide +kernel
theorem d_Sh_init_32 : decode I_Sh_init.2.1 32 = .ok (.iconst 4, 1) := by decide +kernel
theorem d_Sh_init_33 : decode I_Sh_init.2.1 33 = .ok (.if_icmp .ge 16, 3) := by decide +kernel
theorem d_Sh_init_36 : decode I_Sh_init.2.1 36 = .ok (.aload_n 0, 1) := by decide +kernel
theorem d_Sh_init_37 : decode I_Sh_init.2.1 37 = .ok (.getfield 11, 3) := by decide +kernel
theorem d_Sh_init_40 : decode I_Sh_init.2.1 40 = .ok (.iload_n 1, 1) := by decide +kernel
theorem d_Sh_init_41 : decode I_Sh_init.2.1 41 = .ok (.iconst (-1), 1) := by decide +kernel
theorem d_Sh_init_42 : decode I_Sh_init.2.1 42 = .ok (.iastore, 1) := by decide +kernel
theorem d_Sh_init_43 : decode I_Sh_init.2.1 43 = .ok (.iinc 1 1, 3) := by decide +kernel
theorem d_Sh_init_46 : decode I_Sh_init.2.1 46 = .ok (.goto (-15), 3) := by decide +kernel
theorem d_Sh_init_49 : decode I_Sh_init.2.1 49 = .ok (.return_, 1) := by decide +kernel
theorem d_Sh_isPlace_0 : decode I_Sh_isPlace.2.1 0 = .ok (.iload_n 1, 1) := by decide +kernel
theorem d_Sh_isPlace_1 : decode I_Sh_isPlace.2.1 1 = .ok (.ifCond .lt 12, 3) := by decide +kernel
theorem d_Sh_isPlace_4 : decode I_Sh_isPlace.2.1 4 = .ok (.iload_n 1, 1) := by decide +kernel
theorem d_Sh_isPlace_5 : decode I_Sh_isPlace.2.1 5 = .ok (.iconst 4, 1) := by decide +kernel
theorem d_Sh_isPlace_6 : decode I_Sh_isPlace.2.1 6 = .ok (.if_icmp .ge 7, 3) := by decide +kernel
theorem d_Sh_isPlace_9 : decode I_Sh_isPlace.2.1 9 = .ok (.iconst 1, 1) := by decide +kernel
theorem d_Sh_isPlace_10 : decode I_Sh_isPlace.2.1 10 = .ok (.goto 4, 3) := by decide +kernel
theorem d_Sh_isPlace_13 : decode I_Sh_isPlace.2.1 13 = .ok (.iconst 0, 1) := by decide +kernel
theorem d_Sh_isPlace_14 : decode I_Sh_isPlace.2.1 14 = .ok (.ireturn, 1) := by decide +kernel
theorem d_Sh_isForm_0 : decode I_Sh_isForm.2.1 0 = .ok (.iload_n 1, 1) := by decide +kernel
theorem d_Sh_isForm_1 : decode I_Sh_isForm.2.1 1 = .ok (.ifCond .lt 12, 3) := by decide +kernel
theorem d_Sh_isForm_4 : decode I_Sh_isForm.2.1 4 = .ok (.iload_n 1, 1) := by decide +kernel
theorem d_Sh_isForm_5 : decode I_Sh_isForm.2.1 5 = .ok (.iconst 3, 1) := by decide +kernel
theorem d_Sh_isForm_6 : decode I_Sh_isForm.2.1 6 = .ok (.if_icmp .ge 7, 3) := by decide +kernel
theorem d_Sh_isForm_9 : decode I_Sh_isForm.2.1 9 = .ok (.iconst 1, 1) := by decide +kernel
theorem d_Sh_isForm_10 : decode I_Sh_isForm.2.1 10 = .ok (.goto 4, 3) := by decide +kernel
theorem d_Sh_isForm_13 : decode I_Sh_isForm.2.1 13 = .ok (.iconst 0, 1) := by decide +kernel
theorem d_Sh_isForm_14 : decode I_Sh_isForm.2.1 14 = .ok (.ireturn, 1) := by decide +kernel
theorem d_Sh_isLost_0 : decode I_Sh_isLost.2.1 0 = .ok (.aload_n 0, 1) := by decide +kernel
theorem d_Sh_isLost_1 : decode I_Sh_isLost.2.1 1 = .ok (.getfield 11, 3) := by decide +kernel
theorem d_Sh_isLost_4 : decode I_Sh_isLost.2.1 4 = .ok (.iload_n 1, 1) := by decide +kernel
theorem d_Sh_isLost_5 : decode I_Sh_isLost.2.1 5 = .ok (.iaload, 1) := by decide +kernel
theorem d_Sh_isLost_6 : decode I_Sh_isLost.2.1 6 = .ok (.iconst (-1), 1) := by decide +kernel
theorem d_Sh_isLost_7 : decode I_Sh_isLost.2.1 7 = .ok (.if_icmp .ne 7, 3) := by decide +kernel
theorem d_Sh_isLost_10 : decode I_Sh_isLost.2.1 10 = .ok (.iconst 1, 1) := by decide +kernel
theorem d_Sh_isLost_11 : decode I_Sh_isLost.2.1 11 = .ok (.goto 4, 3) := by decide +kernel
theorem d_Sh_isLost_14 : decode I_Sh_isLost.2.1 14 = .ok (.iconst 0, 1) := by decide +kernel
theorem d_Sh_isLost_15 : decode I_Sh_isLost.2.1 15 = .ok (.ireturn, 1) := by decide +kernel
theorem d_Sh_find_0 : decode I_Sh_find.2.1 0 = .ok (.aload_n 0, 1) := by decide +kernel
theorem d_Sh_find_1 : decode I_Sh_find.2.1 1 = .ok (.iload_n 1, 1) := by decide +kernel
theorem d_Sh_find_2 : decode I_Sh_find.2.1 2 = .ok (.putfield 23, 3) := by decide +kernel
theorem d_Sh_find_5 : decode I_Sh_find.2.1 5 = .ok (.bipush (-10), 2) := by decide +kernel
theorem d_Sh_find_7 : decode I_Sh_find.2.1 7 = .ok (.iload_n 1, 1) := by decide +kernel
theorem d_Sh_find_8 : decode I_Sh_find.2.1 8 = .ok (.isub, 1) := by decide +kernel
theorem d_Sh_find_9 : decode I_Sh_find.2.1 9 = .ok (.ireturn, 1) := by decide +kernel
theorem d_Sh_renew_0 : decode I_Sh_renew.2.1 0 = .ok (.aload_n 0, 1) := by decide +kernel
theorem d_Sh_renew_1 : decode I_Sh_renew.2.1 1 = .ok (.getfield 11, 3) := by decide +kernel
theorem d_Sh_renew_4 : decode I_Sh_renew.2.1 4 = .ok (.iload_n 1, 1) := by decide +kernel
theorem d_Sh_renew_5 : decode I_Sh_renew.2.1 5 = .ok (.iload_n 2, 1) := by decide +kernel
theorem d_Sh_renew_6 : decode I_Sh_renew.2.1 6 = .ok (.iastore, 1) := by decide +kernel
theorem d_Sh_renew_7 : decode I_Sh_renew.2.1 7 = .ok (.aload_n 0, 1) := by decide +kernel
theorem d_Sh_renew_8 : decode I_Sh_renew.2.1 8 = .ok (.getfield 15, 3) := by decide +kernel
theorem d_Sh_renew_11 : decode I_Sh_renew.2.1 11 = .ok (.iload_n 1, 1) := by decide +kernel
theorem d_Sh_renew_12 : decode I_Sh_renew.2.1 12 = .ok (.iload_n 3, 1) := by decide +kernel
theorem d_Sh_renew_13 : decode I_Sh_renew.2.1 13 = .ok (.iastore, 1) := by decide +kernel
theorem d_Sh_renew_14 : decode I_Sh_renew.2.1 14 = .ok (.iconst 0, 1) := by decide +kernel
theorem d_Sh_renew_15 : decode I_Sh_renew.2.1 15 = .ok (.istore 4, 2) := by decide +kernel
theorem d_Sh_renew_17 : decode I_Sh_renew.2.1 17 = .ok (.iload 4, 2) := by decide +kernel
theorem d_Sh_renew_19 : decode I_Sh_renew.2.1 19 = .ok (.bipush 48, 2) := by decide +kernel
theorem d_Sh_renew_21 : decode I_Sh_renew.2.1 21 = .ok (.if_icmp .ge 19, 3) := by decide +kernel
theorem d_Sh_renew_24 : decode I_Sh_renew.2.1 24 = .ok (.aload_n 0, 1) := by decide +kernel
theorem d_Sh_renew_25 : decode I_Sh_renew.2.1 25 = .ok (.getfield 20, 3) := by decide +kernel
theorem d_Sh_renew_28 : decode I_Sh_renew.2.1 28 = .ok (.iload_n 1, 1) := by decide +kernel
theorem d_Sh_renew_29 : decode I_Sh_renew.2.1 29 = .ok (.aaload, 1) := by decide +kernel
theorem d_Sh_renew_30 : decode I_Sh_renew.2.1 30 = .ok (.iload 4, 2) := by decide +kernel
theorem d_Sh_renew_32 : decode I_Sh_renew.2.1 32 = .ok (.iconst 0, 1) := by decide +kernel
theorem d_Sh_renew_33 : decode I_Sh_renew.2.1 33 = .ok (.iastore, 1) := by decide +kernel
theorem d_Sh_renew_34 : decode I_Sh_renew.2.1 34 = .ok (.iinc 4 1, 3) := by decide +kernel
theorem d_Sh_renew_37 : decode I_Sh_renew.2.1 37 = .ok (.goto (-20), 3) := by decide +kernel
theorem d_Sh_renew_40 : decode I_Sh_renew.2.1 40 = .ok (.return_, 1) := by decide +kernel
theorem d_Sh_findingAt_0 : decode I_Sh_findingAt.2.1 0 = .ok (.aload_n 0, 1) := by decide +kernel
theorem d_Sh_findingAt_1 : decode I_Sh_findingAt.2.1 1 = .ok (.iload_n 1, 1) := by decide +kernel
theorem d_Sh_findingAt_2 : decode I_Sh_findingAt.2.1 2 = .ok (.invokevirtual 27, 3) := by decide +kernel
theorem d_Sh_findingAt_5 : decode I_Sh_findingAt.2.1 5 = .ok (.ifCond .eq 5, 3) := by decide +kernel
theorem d_Sh_findingAt_8 : decode I_Sh_findingAt.2.1 8 = .ok (.iconst 1, 1) := by decide +kernel
theorem d_Sh_findingAt_9 : decode I_Sh_findingAt.2.1 9 = .ok (.ireturn, 1) := by decide +kernel
theorem d_Sh_findingAt_10 : decode I_Sh_findingAt.2.1 10 = .ok (.aload_n 0, 1) := by decide +kernel
theorem d_Sh_findingAt_11 : decode I_Sh_findingAt.2.1 11 = .ok (.getfield 11, 3) := by decide +kernel
theorem d_Sh_findingAt_14 : decode I_Sh_findingAt.2.1 14 = .ok (.iload_n 1, 1) := by decide +kernel
theorem d_Sh_findingAt_15 : decode I_Sh_findingAt.2.1 15 = .ok (.iaload, 1) := by decide +kernel
theorem d_Sh_findingAt_16 : decode I_Sh_findingAt.2.1 16 = .ok (.iload_n 2, 1) := by decide +kernel
theorem d_Sh_findingAt_17 : decode I_Sh_findingAt.2.1 17 = .ok (.if_icmp .eq 5, 3) := by decide +kernel
theorem d_Sh_findingAt_20 : decode I_Sh_findingAt.2.1 20 = .ok (.iconst 3, 1) := by decide +kernel
theorem d_Sh_findingAt_21 : decode I_Sh_findingAt.2.1 21 = .ok (.ireturn, 1) := by decide +kernel
theorem d_Sh_findingAt_22 : decode I_Sh_findingAt.2.1 22 = .ok (.iload_n 3, 1) := by decide +kernel
theorem d_Sh_findingAt_23 : decode I_Sh_findingAt.2.1 23 = .ok (.ifCond .lt 13, 3) := by decide +kernel
theorem d_Sh_findingAt_26 : decode I_Sh_findingAt.2.1 26 = .ok (.iload_n 3, 1) := by decide +kernel
theorem d_Sh_findingAt_27 : decode I_Sh_findingAt.2.1 27 = .ok (.aload_n 0, 1) := by decide +kernel
theorem d_Sh_findingAt_28 : decode I_Sh_findingAt.2.1 28 = .ok (.getfield 15, 3) := by decide +kernel
theorem d_Sh_findingAt_31 : decode I_Sh_findingAt.2.1 31 = .ok (.iload_n 1, 1) := by decide +kernel
theorem d_Sh_findingAt_32 : decode I_Sh_findingAt.2.1 32 = .ok (.iaload, 1) := by decide +kernel
theorem d_Sh_findingAt_33 : decode I_Sh_findingAt.2.1 33 = .ok (.if_icmp .lt 7, 3) := by decide +kernel
theorem d_Sh_findingAt_36 : decode I_Sh_findingAt.2.1 36 = .ok (.iconst 2, 1) := by decide +kernel
theorem d_Sh_findingAt_37 : decode I_Sh_findingAt.2.1 37 = .ok (.goto 4, 3) := by decide +kernel
theorem d_Sh_findingAt_40 : decode I_Sh_findingAt.2.1 40 = .ok (.iconst 0, 1) := by decide +kernel
theorem d_Sh_findingAt_41 : decode I_Sh_findingAt.2.1 41 = .ok (.ireturn, 1) := by decide +kernel
theorem d_Sh_hasRun_0 : decode I_Sh_hasRun.2.1 0 = .ok (.iload_n 2, 1) := by decide +kernel
theorem d_Sh_hasRun_1 : decode I_Sh_hasRun.2.1 1 = .ok (.ifCond .lt 33, 3) := by decide +kernel
theorem d_Sh_hasRun_4 : decode I_Sh_hasRun.2.1 4 = .ok (.iload_n 3, 1) := by decide +kernel
theorem d_Sh_hasRun_5 : decode I_Sh_hasRun.2.1 5 = .ok (.ifCond .lt 29, 3) := by decide +kernel
theorem d_Sh_hasRun_8 : decode I_Sh_hasRun.2.1 8 = .ok (.iload_n 3, 1) := by decide +kernel
theorem d_Sh_hasRun_9 : decode I_Sh_hasRun.2.1 9 = .ok (.aload_n 0, 1) := by decide +kernel
theorem d_Sh_hasRun_10 : decode I_Sh_hasRun.2.1 10 = .ok (.getfield 15, 3) := by decide +kernel
theorem d_Sh_hasRun_13 : decode I_Sh_hasRun.2.1 13 = .ok (.iload_n 1, 1) := by decide +kernel
theorem d_Sh_hasRun_14 : decode I_Sh_hasRun.2.1 14 = .ok (.iaload, 1) := by decide +kernel
theorem d_Sh_hasRun_15 : decode I_Sh_hasRun.2.1 15 = .ok (.if_icmp .gt 19, 3) := by decide +kernel
theorem d_Sh_hasRun_18 : decode I_Sh_hasRun.2.1 18 = .ok (.iload_n 2, 1) := by decide +kernel
theorem d_Sh_hasRun_19 : decode I_Sh_hasRun.2.1 19 = .ok (.aload_n 0, 1) := by decide +kernel
theorem d_Sh_hasRun_20 : decode I_Sh_hasRun.2.1 20 = .ok (.getfield 15, 3) := by decide +kernel
theorem d_Sh_hasRun_23 : decode I_Sh_hasRun.2.1 23 = .ok (.iload_n 1, 1) := by decide +kernel
theorem d_Sh_hasRun_24 : decode I_Sh_hasRun.2.1 24 = .ok (.iaload, 1) := by decide +kernel
theorem d_Sh_hasRun_25 : decode I_Sh_hasRun.2.1 25 = .ok (.iload_n 3, 1) := by decide +kernel
theorem d_Sh_hasRun_26 : decode I_Sh_hasRun.2.1 26 = .ok (.isub, 1) := by decide +kernel
theorem d_Sh_hasRun_27 : decode I_Sh_hasRun.2.1 27 = .ok (.if_icmp .gt 7, 3) := by decide +kernel
theorem d_Sh_hasRun_30 : decode I_Sh_hasRun.2.1 30 = .ok (.iconst 1, 1) := by decide +kernel
theorem d_Sh_hasRun_31 : decode I_Sh_hasRun.2.1 31 = .ok (.goto 4, 3) := by decide +kernel
theorem d_Sh_hasRun_34 : decode I_Sh_hasRun.2.1 34 = .ok (.iconst 0, 1) := by decide +kernel
theorem d_Sh_hasRun_35 : decode I_Sh_hasRun.2.1 35 = .ok (.ireturn, 1) := by decide +kernel
theorem d_Sh_fit_0 : decode I_Sh_fit.2.1 0 = .ok (.iload_n 1, 1) := by decide +kernel
theorem d_Sh_fit_1 : decode I_Sh_fit.2.1 1 = .ok (.lookupswitch 33 #[(0, 27), (1, 30)], 27) := by decide +kernel
theorem d_Sh_fit_28 : decode I_Sh_fit.2.1 28 = .ok (.iload_n 2, 1) := by decide +kernel
theorem d_Sh_fit_29 : decode I_Sh_fit.2.1 29 = .ok (.i2b, 1) := by decide +kernel
theorem d_Sh_fit_30 : decode I_Sh_fit.2.1 30 = .ok (.ireturn, 1) := by decide +kernel
theorem d_Sh_fit_31 : decode I_Sh_fit.2.1 31 = .ok (.iload_n 2, 1) := by decide +kernel
theorem d_Sh_fit_32 : decode I_Sh_fit.2.1 32 = .ok (.i2s, 1) := by decide +kernel
theorem d_Sh_fit_33 : decode I_Sh_fit.2.1 33 = .ok (.ireturn, 1) := by decide +kernel
theorem d_Sh_fit_34 : decode I_Sh_fit.2.1 34 = .ok (.iload_n 2, 1) := by decide +kernel
theorem d_Sh_fit_35 : decode I_Sh_fit.2.1 35 = .ok (.ireturn, 1) := by decide +kernel
theorem d_Su_init_0 : decode I_Su_init.2.1 0 = .ok (.aload_n 0, 1) := by decide +kernel
theorem d_Su_init_1 : decode I_Su_init.2.1 1 = .ok (.invokespecial 3, 3) := by decide +kernel
theorem d_Su_init_4 : decode I_Su_init.2.1 4 = .ok (.aload_n 0, 1) := by decide +kernel
theorem d_Su_init_5 : decode I_Su_init.2.1 5 = .ok (.iconst 3, 1) := by decide +kernel
theorem d_Su_init_6 : decode I_Su_init.2.1 6 = .ok (.newarray .int, 2) := by decide +kernel
theorem d_Su_init_8 : decode I_Su_init.2.1 8 = .ok (.putfield 9, 3) := by decide +kernel
theorem d_Su_init_11 : decode I_Su_init.2.1 11 = .ok (.aload_n 0, 1) := by decide +kernel
theorem d_Su_init_12 : decode I_Su_init.2.1 12 = .ok (.aload_n 1, 1) := by decide +kernel
theorem d_Su_init_13 : decode I_Su_init.2.1 13 = .ok (.putfield 15, 3) := by decide +kernel
theorem d_Su_init_16 : decode I_Su_init.2.1 16 = .ok (.return_, 1) := by decide +kernel
theorem d_Su_plead_0 : decode I_Su_plead.2.1 0 = .ok (.aload_n 0, 1) := by decide +kernel
theorem d_Su_plead_1 : decode I_Su_plead.2.1 1 = .ok (.iload_n 2, 1) := by decide +kernel
theorem d_Su_plead_2 : decode I_Su_plead.2.1 2 = .ok (.putfield 19, 3) := by decide +kernel
theorem d_Su_plead_5 : decode I_Su_plead.2.1 5 = .ok (.aload_n 0, 1) := by decide +kernel
theorem d_Su_plead_6 : decode I_Su_plead.2.1 6 = .ok (.iload_n 3, 1) := by decide +kernel
theorem d_Su_plead_7 : decode I_Su_plead.2.1 7 = .ok (.putfield 23, 3) := by decide +kernel
theorem d_Su_plead_10 : decode I_Su_plead.2.1 10 = .ok (.aload_n 0, 1) := by decide +kernel
theorem d_Su_plead_11 : decode I_Su_plead.2.1 11 = .ok (.getfield 15, 3) := by decide +kernel
theorem d_Su_plead_14 : decode I_Su_plead.2.1 14 = .ok (.getfield 26, 3) := by decide +kernel
theorem d_Su_plead_17 : decode I_Su_plead.2.1 17 = .ok (.iconst 0, 1) := by decide +kernel
theorem d_Su_plead_18 : decode I_Su_plead.2.1 18 = .ok (.aaload, 1) := by decide +kernel
theorem d_Su_plead_19 : decode I_Su_plead.2.1 19 = .ok (.astore 4, 2) := by decide +kernel
theorem d_Su_plead_21 : decode I_Su_plead.2.1 21 = .ok (.aload 4, 2) := by decide +kernel
theorem d_Su_plead_23 : decode I_Su_plead.2.1 23 = .ok (.aload_n 1, 1) := by decide +kernel
theorem d_Su_plead_24 : decode I_Su_plead.2.1 24 = .ok (.iconst (-1), 1) := by decide +kernel
theorem d_Su_plead_25 : decode I_Su_plead.2.1 25 = .ok (.invokevirtual 32, 3) := by decide +kernel
theorem d_Su_plead_28 : decode I_Su_plead.2.1 28 = .ok (.aload_n 0, 1) := by decide +kernel
theorem d_Su_plead_29 : decode I_Su_plead.2.1 29 = .ok (.getfield 15, 3) := by decide +kernel
theorem d_Su_plead_32 : decode I_Su_plead.2.1 32 = .ok (.iconst 0, 1) := by decide +kernel
theorem d_Su_plead_33 : decode I_Su_plead.2.1 33 = .ok (.invokevirtual 38, 3) := by decide +kernel
theorem d_Su_plead_36 : decode I_Su_plead.2.1 36 = .ok (.ifCond .eq 13, 3) := by decide +kernel
theorem d_Su_plead_39 : decode I_Su_plead.2.1 39 = .ok (.aload_n 0, 1) := by decide +kernel
theorem d_Su_plead_40 : decode I_Su_plead.2.1 40 = .ok (.getfield 15, 3) := by decide +kernel
theorem d_Su_plead_43 : decode I_Su_plead.2.1 43 = .ok (.aload 4, 2) := by decide +kernel
theorem d_Su_plead_45 : decode I_Su_plead.2.1 45 = .ok (.iconst 0, 1) := by decide +kernel
theorem d_Su_plead_46 : decode I_Su_plead.2.1 46 = .ok (.invokevirtual 42, 3) := by decide +kernel
theorem d_Su_plead_49 : decode I_Su_plead.2.1 49 = .ok (.return_, 1) := by decide +kernel
theorem d_Su_seek_0 : decode I_Su_seek.2.1 0 = .ok (.iload_n 1, 1) := by decide +kernel
theorem d_Su_seek_1 : decode I_Su_seek.2.1 1 = .ok (.iload_n 3, 1) := by decide +kernel
theorem d_Su_seek_2 : decode I_Su_seek.2.1 2 = .ok (.iadd, 1) := by decide +kernel
theorem d_Su_seek_3 : decode I_Su_seek.2.1 3 = .ok (.iconst 3, 1) := by decide +kernel
theorem d_Su_seek_4 : decode I_Su_seek.2.1 4 = .ok (.if_icmp .le 5, 3) := by decide +kernel
theorem d_Su_seek_7 : decode I_Su_seek.2.1 7 = .ok (.iconst 0, 1) := by decide +kernel
theorem d_Su_seek_8 : decode I_Su_seek.2.1 8 = .ok (.ireturn, 1) := by decide +kernel
theorem d_Su_seek_9 : decode I_Su_seek.2.1 9 = .ok (.aload_n 0, 1) := by decide +kernel
theorem d_Su_seek_10 : decode I_Su_seek.2.1 10 = .ok (.getfield 15, 3) := by decide +kernel
theorem d_Su_seek_13 : decode I_Su_seek.2.1 13 = .ok (.astore 4, 2) := by decide +kernel
theorem d_Su_seek_15 : decode I_Su_seek.2.1 15 = .ok (.aload 4, 2) := by decide +kernel
theorem d_Su_seek_17 : decode I_Su_seek.2.1 17 = .ok (.getfield 26, 3) := by decide +kernel
theorem d_Su_seek_20 : decode I_Su_seek.2.1 20 = .ok (.iload_n 1, 1) := by decide +kernel
theorem d_Su_seek_21 : decode I_Su_seek.2.1 21 = .ok (.aaload, 1) := by decide +kernel
theorem d_Su_seek_22 : decode I_Su_seek.2.1 22 = .ok (.astore 5, 2) := by decide +kernel
theorem d_Su_seek_24 : decode I_Su_seek.2.1 24 = .ok (.iload_n 3, 1) := by decide +kernel
theorem d_Su_seek_25 : decode I_Su_seek.2.1 25 = .ok (.ifCond .ne 13, 3) := by decide +kernel
theorem d_Su_seek_28 : decode I_Su_seek.2.1 28 = .ok (.aload_n 0, 1) := by decide +kernel
theorem d_Su_seek_29 : decode I_Su_seek.2.1 29 = .ok (.aload 5, 2) := by decide +kernel
theorem d_Su_seek_31 : decode I_Su_seek.2.1 31 = .ok (.iload_n 2, 1) := by decide +kernel
theorem d_Su_seek_32 : decode I_Su_seek.2.1 32 = .ok (.iconst 3, 1) := by decide +kernel
theorem d_Su_seek_33 : decode I_Su_seek.2.1 33 = .ok (.idiv, 1) := by decide +kernel
theorem d_Su_seek_34 : decode I_Su_seek.2.1 34 = .ok (.invokevirtual 46, 3) := by decide +kernel
theorem d_Su_seek_37 : decode I_Su_seek.2.1 37 = .ok (.ireturn, 1) := by decide +kernel
theorem d_Su_seek_38 : decode I_Su_seek.2.1 38 = .ok (.iload_n 2, 1) := by decide +kernel
theorem d_Su_seek_39 : decode I_Su_seek.2.1 39 = .ok (.istore 6, 2) := by decide +kernel
theorem d_Su_seek_41 : decode I_Su_seek.2.1 41 = .ok (.iload 6, 2) := by decide +kernel
theorem d_Su_seek_43 : decode I_Su_seek.2.1 43 = .ok (.aload_n 0, 1) := by decide +kernel
theorem d_Su_seek_44 : decode I_Su_seek.2.1 44 = .ok (.getfield 23, 3) := by decide +kernel
theorem d_Su_seek_47 : decode I_Su_seek.2.1 47 = .ok (.iconst 1, 1) := by decide +kernel
theorem d_Su_seek_48 : decode I_Su_seek.2.1 48 = .ok (.iadd, 1) := by decide +kernel
theorem d_Su_seek_49 : decode I_Su_seek.2.1 49 = .ok (.iconst 3, 1) := by decide +kernel
theorem d_Su_seek_50 : decode I_Su_seek.2.1 50 = .ok (.imul, 1) := by decide +kernel
theorem d_Su_seek_51 : decode I_Su_seek.2.1 51 = .ok (.if_icmp .ge 130, 3) := by decide +kernel
theorem d_Su_seek_54 : decode I_Su_seek.2.1 54 = .ok (.iload 6, 2) := by decide +kernel
theorem d_Su_seek_56 : decode I_Su_seek.2.1 56 = .ok (.iconst 3, 1) := by decide +kernel
theorem d_Su_seek_57 : decode I_Su_seek.2.1 57 = .ok (.idiv, 1) := by decide +kernel
theorem d_Su_seek_58 : decode I_Su_seek.2.1 58 = .ok (.istore 7, 2) := by decide +kernel
theorem d_Su_seek_60 : decode I_Su_seek.2.1 60 = .ok (.iload 6, 2) := by decide +kernel
theorem d_Su_seek_62 : decode I_Su_seek.2.1 62 = .ok (.iload_n 2, 1) := by decide +kernel
theorem d_Su_seek_63 : decode I_Su_seek.2.1 63 = .ok (.if_icmp .le 36, 3) := by decide +kernel
theorem d_Su_seek_66 : decode I_Su_seek.2.1 66 = .ok (.iload 6, 2) := by decide +kernel
theorem d_Su_seek_68 : decode I_Su_seek.2.1 68 = .ok (.iconst 3, 1) := by decide +kernel
theorem d_Su_seek_69 : decode I_Su_seek.2.1 69 = .ok (.irem, 1) := by decide +kernel
theorem d_Su_seek_70 : decode I_Su_seek.2.1 70 = .ok (.ifCond .ne 29, 3) := by decide +kernel
theorem d_Su_seek_73 : decode I_Su_seek.2.1 73 = .ok (.aload 4, 2) := by decide +kernel
theorem d_Su_seek_75 : decode I_Su_seek.2.1 75 = .ok (.aload 5, 2) := by decide +kernel
theorem d_Su_seek_77 : decode I_Su_seek.2.1 77 = .ok (.invokevirtual 50, 3) := by decide +kernel
theorem d_Su_seek_80 : decode I_Su_seek.2.1 80 = .ok (.aload 4, 2) := by decide +kernel
theorem d_Su_seek_82 : decode I_Su_seek.2.1 82 = .ok (.iload 7, 2) := by decide +kernel
theorem d_Su_seek_84 : decode I_Su_seek.2.1 84 = .ok (.invokevirtual 38, 3) := by decide +kernel
theorem d_Su_seek_87 : decode I_Su_seek.2.1 87 = .ok (.ifCond .eq 12, 3) := by decide +kernel
theorem d_Su_seek_90 : decode I_Su_seek.2.1 90 = .ok (.aload 4, 2) := by decide +kernel
theorem d_Su_seek_92 : decode I_Su_seek.2.1 92 = .ok (.aload 5, 2) := by decide +kernel
theorem d_Su_seek_94 : decode I_Su_seek.2.1 94 = .ok (.iload 7, 2) := by decide +kernel
theorem d_Su_seek_96 : decode I_Su_seek.2.1 96 = .ok (.invokevirtual 42, 3) := by decide +kernel
theorem d_Su_seek_99 : decode I_Su_seek.2.1 99 = .ok (.aload 4, 2) := by decide +kernel
theorem d_Su_seek_101 : decode I_Su_seek.2.1 101 = .ok (.iload 7, 2) := by decide +kernel
theorem d_Su_seek_103 : decode I_Su_seek.2.1 103 = .ok (.invokevirtual 38, 3) := by decide +kernel
theorem d_Su_seek_106 : decode I_Su_seek.2.1 106 = .ok (.ifCond .ne 6, 3) := by decide +kernel
theorem d_Su_seek_109 : decode I_Su_seek.2.1 109 = .ok (.goto 66, 3) := by decide +kernel
theorem d_Su_seek_112 : decode I_Su_seek.2.1 112 = .ok (.aload_n 0, 1) := by decide +kernel
theorem d_Su_seek_113 : decode I_Su_seek.2.1 113 = .ok (.getfield 9, 3) := by decide +kernel
theorem d_Su_seek_116 : decode I_Su_seek.2.1 116 = .ok (.iload_n 1, 1) := by decide +kernel
theorem d_Su_seek_117 : decode I_Su_seek.2.1 117 = .ok (.iload 6, 2) := by decide +kernel
theorem d_Su_seek_119 : decode I_Su_seek.2.1 119 = .ok (.iastore, 1) := by decide +kernel
theorem d_Su_seek_120 : decode I_Su_seek.2.1 120 = .ok (.aload 4, 2) := by decide +kernel
theorem d_Su_seek_122 : decode I_Su_seek.2.1 122 = .ok (.getfield 26, 3) := by decide +kernel
theorem d_Su_seek_125 : decode I_Su_seek.2.1 125 = .ok (.iload_n 1, 1) := by decide +kernel
theorem d_Su_seek_126 : decode I_Su_seek.2.1 126 = .ok (.iconst 1, 1) := by decide +kernel
theorem d_Su_seek_127 : decode I_Su_seek.2.1 127 = .ok (.iadd, 1) := by decide +kernel
theorem d_Su_seek_128 : decode I_Su_seek.2.1 128 = .ok (.aaload, 1) := by decide +kernel
theorem d_Su_seek_129 : decode I_Su_seek.2.1 129 = .ok (.aload 5, 2) := by decide +kernel
theorem d_Su_seek_131 : decode I_Su_seek.2.1 131 = .ok (.invokevirtual 54, 3) := by decide +kernel
theorem d_Su_seek_134 : decode I_Su_seek.2.1 134 = .ok (.aload 4, 2) := by decide +kernel
theorem d_Su_seek_136 : decode I_Su_seek.2.1 136 = .ok (.aload 4, 2) := by decide +kernel
theorem d_Su_seek_138 : decode I_Su_seek.2.1 138 = .ok (.getfield 26, 3) := by decide +kernel
theorem d_Su_seek_141 : decode I_Su_seek.2.1 141 = .ok (.iload_n 1, 1) := by decide +kernel
theorem d_Su_seek_142 : decode I_Su_seek.2.1 142 = .ok (.iconst 1, 1) := by decide +kernel
theorem d_Su_seek_143 : decode I_Su_seek.2.1 143 = .ok (.iadd, 1) := by decide +kernel
theorem d_Su_seek_144 : decode I_Su_seek.2.1 144 = .ok (.aaload, 1) := by decide +kernel
theorem d_Su_seek_145 : decode I_Su_seek.2.1 145 = .ok (.iload 7, 2) := by decide +kernel
theorem d_Su_seek_147 : decode I_Su_seek.2.1 147 = .ok (.aload_n 0, 1) := by decide +kernel
theorem d_Su_seek_148 : decode I_Su_seek.2.1 148 = .ok (.getfield 19, 3) := by decide +kernel
theorem d_Su_seek_151 : decode I_Su_seek.2.1 151 = .ok (.iload 6, 2) := by decide +kernel
theorem d_Su_seek_153 : decode I_Su_seek.2.1 153 = .ok (.iconst 3, 1) := by decide +kernel
theorem d_Su_seek_154 : decode I_Su_seek.2.1 154 = .ok (.irem, 1) := by decide +kernel
theorem d_Su_seek_155 : decode I_Su_seek.2.1 155 = .ok (.invokevirtual 57, 3) := by decide +kernel
theorem d_Su_seek_158 : decode I_Su_seek.2.1 158 = .ok (.aload_n 0, 1) := by decide +kernel
theorem d_Su_seek_159 : decode I_Su_seek.2.1 159 = .ok (.iload_n 1, 1) := by decide +kernel
theorem d_Su_seek_160 : decode I_Su_seek.2.1 160 = .ok (.iconst 1, 1) := by decide +kernel
theorem d_Su_seek_161 : decode I_Su_seek.2.1 161 = .ok (.iadd, 1) := by decide +kernel
theorem d_Su_seek_162 : decode I_Su_seek.2.1 162 = .ok (.iload 6, 2) := by decide +kernel
theorem d_Su_seek_164 : decode I_Su_seek.2.1 164 = .ok (.iload_n 3, 1) := by decide +kernel
theorem d_Su_seek_165 : decode I_Su_seek.2.1 165 = .ok (.iconst 1, 1) := by decide +kernel
theorem d_Su_seek_166 : decode I_Su_seek.2.1 166 = .ok (.isub, 1) := by decide +kernel
theorem d_Su_seek_167 : decode I_Su_seek.2.1 167 = .ok (.invokestatic 61, 3) := by decide +kernel
theorem d_Su_seek_170 : decode I_Su_seek.2.1 170 = .ok (.ifCond .eq 5, 3) := by decide +kernel
theorem d_Su_seek_173 : decode I_Su_seek.2.1 173 = .ok (.iconst 1, 1) := by decide +kernel
theorem d_Su_seek_174 : decode I_Su_seek.2.1 174 = .ok (.ireturn, 1) := by decide +kernel
theorem d_Su_seek_175 : decode I_Su_seek.2.1 175 = .ok (.iinc 6 1, 3) := by decide +kernel
theorem d_Su_seek_178 : decode I_Su_seek.2.1 178 = .ok (.goto (-137), 3) := by decide +kernel
theorem d_Su_seek_181 : decode I_Su_seek.2.1 181 = .ok (.iconst 0, 1) := by decide +kernel
theorem d_Su_seek_182 : decode I_Su_seek.2.1 182 = .ok (.ireturn, 1) := by decide +kernel
theorem d_Su_isFoundAfter_0 : decode I_Su_isFoundAfter.2.1 0 = .ok (.aload_n 0, 1) := by decide +kernel
theorem d_Su_isFoundAfter_1 : decode I_Su_isFoundAfter.2.1 1 = .ok (.getfield 15, 3) := by decide +kernel
theorem d_Su_isFoundAfter_4 : decode I_Su_isFoundAfter.2.1 4 = .ok (.aload_n 1, 1) := by decide +kernel
theorem d_Su_isFoundAfter_5 : decode I_Su_isFoundAfter.2.1 5 = .ok (.invokevirtual 50, 3) := by decide +kernel
theorem d_Su_isFoundAfter_8 : decode I_Su_isFoundAfter.2.1 8 = .ok (.iload_n 2, 1) := by decide +kernel
theorem d_Su_isFoundAfter_9 : decode I_Su_isFoundAfter.2.1 9 = .ok (.iconst 1, 1) := by decide +kernel
theorem d_Su_isFoundAfter_10 : decode I_Su_isFoundAfter.2.1 10 = .ok (.iadd, 1) := by decide +kernel
theorem d_Su_isFoundAfter_11 : decode I_Su_isFoundAfter.2.1 11 = .ok (.istore_n 3, 1) := by decide +kernel
theorem d_Su_isFoundAfter_12 : decode I_Su_isFoundAfter.2.1 12 = .ok (.iload_n 3, 1) := by decide +kernel
theorem d_Su_isFoundAfter_13 : decode I_Su_isFoundAfter.2.1 13 = .ok (.aload_n 0, 1) := by decide +kernel
theorem d_Su_isFoundAfter_14 : decode I_Su_isFoundAfter.2.1 14 = .ok (.getfield 23, 3) := by decide +kernel
theorem d_Su_isFoundAfter_17 : decode I_Su_isFoundAfter.2.1 17 = .ok (.if_icmp .gt 18, 3) := by decide +kernel
theorem d_Su_isFoundAfter_20 : decode I_Su_isFoundAfter.2.1 20 = .ok (.aload_n 0, 1) := by decide +kernel
theorem d_Su_isFoundAfter_21 : decode I_Su_isFoundAfter.2.1 21 = .ok (.getfield 15, 3) := by decide +kernel
theorem d_Su_isFoundAfter_24 : decode I_Su_isFoundAfter.2.1 24 = .ok (.aload_n 1, 1) := by decide +kernel
theorem d_Su_isFoundAfter_25 : decode I_Su_isFoundAfter.2.1 25 = .ok (.iload_n 3, 1) := by decide +kernel
theorem d_Su_isFoundAfter_26 : decode I_Su_isFoundAfter.2.1 26 = .ok (.invokevirtual 65, 3) := by decide +kernel
theorem d_Su_isFoundAfter_29 : decode I_Su_isFoundAfter.2.1 29 = .ok (.iinc 3 1, 3) := by decide +kernel
theorem d_Su_isFoundAfter_32 : decode I_Su_isFoundAfter.2.1 32 = .ok (.goto (-20), 3) := by decide +kernel
theorem d_Su_isFoundAfter_35 : decode I_Su_isFoundAfter.2.1 35 = .ok (.aload_n 1, 1) := by decide +kernel
theorem d_Su_isFoundAfter_36 : decode I_Su_isFoundAfter.2.1 36 = .ok (.getfield 68, 3) := by decide +kernel
theorem d_Su_isFoundAfter_39 : decode I_Su_isFoundAfter.2.1 39 = .ok (.aload_n 0, 1) := by decide +kernel
theorem d_Su_isFoundAfter_40 : decode I_Su_isFoundAfter.2.1 40 = .ok (.getfield 19, 3) := by decide +kernel
theorem d_Su_isFoundAfter_43 : decode I_Su_isFoundAfter.2.1 43 = .ok (.if_icmp .ne 7, 3) := by decide +kernel
theorem d_Su_isFoundAfter_46 : decode I_Su_isFoundAfter.2.1 46 = .ok (.iconst 1, 1) := by decide +kernel
theorem d_Su_isFoundAfter_47 : decode I_Su_isFoundAfter.2.1 47 = .ok (.goto 4, 3) := by decide +kernel
theorem d_Su_isFoundAfter_50 : decode I_Su_isFoundAfter.2.1 50 = .ok (.iconst 0, 1) := by decide +kernel
theorem d_Su_isFoundAfter_51 : decode I_Su_isFoundAfter.2.1 51 = .ok (.ireturn, 1) := by decide +kernel
theorem d_Tu_init_0 : decode I_Tu_init.2.1 0 = .ok (.aload_n 0, 1) := by decide +kernel
theorem d_Tu_init_1 : decode I_Tu_init.2.1 1 = .ok (.invokespecial 3, 3) := by decide +kernel
theorem d_Tu_init_4 : decode I_Tu_init.2.1 4 = .ok (.aload_n 0, 1) := by decide +kernel
theorem d_Tu_init_5 : decode I_Tu_init.2.1 5 = .ok (.aload_n 1, 1) := by decide +kernel
theorem d_Tu_init_6 : decode I_Tu_init.2.1 6 = .ok (.putfield 9, 3) := by decide +kernel
theorem d_Tu_init_9 : decode I_Tu_init.2.1 9 = .ok (.return_, 1) := by decide +kernel
theorem d_Tu_leastThatWins_0 : decode I_Tu_leastThatWins.2.1 0 = .ok (.aload_n 0, 1) := by decide +kernel
theorem d_Tu_leastThatWins_1 : decode I_Tu_leastThatWins.2.1 1 = .ok (.iload_n 2, 1) := by decide +kernel
theorem d_Tu_leastThatWins_2 : decode I_Tu_leastThatWins.2.1 2 = .ok (.putfield 15, 3) := by decide +kernel
theorem d_Tu_leastThatWins_5 : decode I_Tu_leastThatWins.2.1 5 = .ok (.aload_n 0, 1) := by decide +kernel
theorem d_Tu_leastThatWins_6 : decode I_Tu_leastThatWins.2.1 6 = .ok (.iload_n 3, 1) := by decide +kernel
theorem d_Tu_leastThatWins_7 : decode I_Tu_leastThatWins.2.1 7 = .ok (.putfield 19, 3) := by decide +kernel
theorem d_Tu_leastThatWins_10 : decode I_Tu_leastThatWins.2.1 10 = .ok (.aload_n 0, 1) := by decide +kernel
theorem d_Tu_leastThatWins_11 : decode I_Tu_leastThatWins.2.1 11 = .ok (.iload 4, 2) := by decide +kernel
theorem d_Tu_leastThatWins_13 : decode I_Tu_leastThatWins.2.1 13 = .ok (.putfield 22, 3) := by decide +kernel
theorem d_Tu_leastThatWins_16 : decode I_Tu_leastThatWins.2.1 16 = .ok (.aload_n 0, 1) := by decide +kernel
theorem d_Tu_leastThatWins_17 : decode I_Tu_leastThatWins.2.1 17 = .ok (.getfield 9, 3) := by decide +kernel
theorem d_Tu_leastThatWins_20 : decode I_Tu_leastThatWins.2.1 20 = .ok (.getfield 25, 3) := by decide +kernel
theorem d_Tu_leastThatWins_23 : decode I_Tu_leastThatWins.2.1 23 = .ok (.iconst 0, 1) := by decide +kernel
theorem d_Tu_leastThatWins_24 : decode I_Tu_leastThatWins.2.1 24 = .ok (.aaload, 1) := by decide +kernel
theorem d_Tu_leastThatWins_25 : decode I_Tu_leastThatWins.2.1 25 = .ok (.aload_n 1, 1) := by decide +kernel
theorem d_Tu_leastThatWins_26 : decode I_Tu_leastThatWins.2.1 26 = .ok (.iconst (-1), 1) := by decide +kernel
theorem d_Tu_leastThatWins_27 : decode I_Tu_leastThatWins.2.1 27 = .ok (.invokevirtual 31, 3) := by decide +kernel
theorem d_Tu_leastThatWins_30 : decode I_Tu_leastThatWins.2.1 30 = .ok (.iconst 0, 1) := by decide +kernel
theorem d_Tu_leastThatWins_31 : decode I_Tu_leastThatWins.2.1 31 = .ok (.istore 5, 2) := by decide +kernel
theorem d_Tu_leastThatWins_33 : decode I_Tu_leastThatWins.2.1 33 = .ok (.iload 5, 2) := by decide +kernel
theorem d_Tu_leastThatWins_35 : decode I_Tu_leastThatWins.2.1 35 = .ok (.iconst 3, 1) := by decide +kernel
theorem d_Tu_leastThatWins_36 : decode I_Tu_leastThatWins.2.1 36 = .ok (.if_icmp .gt 22, 3) := by decide +kernel
theorem d_Tu_leastThatWins_39 : decode I_Tu_leastThatWins.2.1 39 = .ok (.aload_n 0, 1) := by decide +kernel
theorem d_Tu_leastThatWins_40 : decode I_Tu_leastThatWins.2.1 40 = .ok (.iconst 0, 1) := by decide +kernel
theorem d_Tu_leastThatWins_41 : decode I_Tu_leastThatWins.2.1 41 = .ok (.iload 5, 2) := by decide +kernel
theorem d_Tu_leastThatWins_43 : decode I_Tu_leastThatWins.2.1 43 = .ok (.invokevirtual 37, 3) := by decide +kernel
theorem d_Tu_leastThatWins_46 : decode I_Tu_leastThatWins.2.1 46 = .ok (.ifCond .eq 6, 3) := by decide +kernel
theorem d_Tu_leastThatWins_49 : decode I_Tu_leastThatWins.2.1 49 = .ok (.iload 5, 2) := by decide +kernel
theorem d_Tu_leastThatWins_51 : decode I_Tu_leastThatWins.2.1 51 = .ok (.ireturn, 1) := by decide +kernel
theorem d_Tu_leastThatWins_52 : decode I_Tu_leastThatWins.2.1 52 = .ok (.iinc 5 1, 3) := by decide +kernel
theorem d_Tu_leastThatWins_55 : decode I_Tu_leastThatWins.2.1 55 = .ok (.goto (-22), 3) := by decide +kernel
theorem d_Tu_leastThatWins_58 : decode I_Tu_leastThatWins.2.1 58 = .ok (.iconst (-1), 1) := by decide +kernel
theorem d_Tu_leastThatWins_59 : decode I_Tu_leastThatWins.2.1 59 = .ok (.ireturn, 1) := by decide +kernel
theorem d_Tu_winsBy_0 : decode I_Tu_winsBy.2.1 0 = .ok (.aload_n 0, 1) := by decide +kernel
theorem d_Tu_winsBy_1 : decode I_Tu_winsBy.2.1 1 = .ok (.getfield 9, 3) := by decide +kernel
theorem d_Tu_winsBy_4 : decode I_Tu_winsBy.2.1 4 = .ok (.getfield 25, 3) := by decide +kernel
theorem d_Tu_winsBy_7 : decode I_Tu_winsBy.2.1 7 = .ok (.iload_n 1, 1) := by decide +kernel
theorem d_Tu_winsBy_8 : decode I_Tu_winsBy.2.1 8 = .ok (.iconst 1, 1) := by decide +kernel
theorem d_Tu_winsBy_9 : decode I_Tu_winsBy.2.1 9 = .ok (.iadd, 1) := by decide +kernel
theorem d_Tu_winsBy_10 : decode I_Tu_winsBy.2.1 10 = .ok (.aaload, 1) := by decide +kernel
theorem d_Tu_winsBy_11 : decode I_Tu_winsBy.2.1 11 = .ok (.astore_n 3, 1) := by decide +kernel
theorem d_Tu_winsBy_12 : decode I_Tu_winsBy.2.1 12 = .ok (.aload_n 3, 1) := by decide +kernel
theorem d_Tu_winsBy_13 : decode I_Tu_winsBy.2.1 13 = .ok (.aload_n 0, 1) := by decide +kernel
theorem d_Tu_winsBy_14 : decode I_Tu_winsBy.2.1 14 = .ok (.getfield 9, 3) := by decide +kernel
theorem d_Tu_winsBy_17 : decode I_Tu_winsBy.2.1 17 = .ok (.getfield 25, 3) := by decide +kernel
theorem d_Tu_winsBy_20 : decode I_Tu_winsBy.2.1 20 = .ok (.iload_n 1, 1) := by decide +kernel
theorem d_Tu_winsBy_21 : decode I_Tu_winsBy.2.1 21 = .ok (.aaload, 1) := by decide +kernel
theorem d_Tu_winsBy_22 : decode I_Tu_winsBy.2.1 22 = .ok (.invokevirtual 41, 3) := by decide +kernel
theorem d_Tu_winsBy_25 : decode I_Tu_winsBy.2.1 25 = .ok (.aload_n 0, 1) := by decide +kernel
theorem d_Tu_winsBy_26 : decode I_Tu_winsBy.2.1 26 = .ok (.getfield 9, 3) := by decide +kernel
theorem d_Tu_winsBy_29 : decode I_Tu_winsBy.2.1 29 = .ok (.iload_n 1, 1) := by decide +kernel
theorem d_Tu_winsBy_30 : decode I_Tu_winsBy.2.1 30 = .ok (.invokevirtual 45, 3) := by decide +kernel
theorem d_Tu_winsBy_33 : decode I_Tu_winsBy.2.1 33 = .ok (.ifCond .eq 44, 3) := by decide +kernel
theorem d_Tu_winsBy_36 : decode I_Tu_winsBy.2.1 36 = .ok (.aload_n 0, 1) := by decide +kernel
theorem d_Tu_winsBy_37 : decode I_Tu_winsBy.2.1 37 = .ok (.getfield 9, 3) := by decide +kernel
theorem d_Tu_winsBy_40 : decode I_Tu_winsBy.2.1 40 = .ok (.aload_n 3, 1) := by decide +kernel
theorem d_Tu_winsBy_41 : decode I_Tu_winsBy.2.1 41 = .ok (.iload_n 1, 1) := by decide +kernel
theorem d_Tu_winsBy_42 : decode I_Tu_winsBy.2.1 42 = .ok (.invokevirtual 49, 3) := by decide +kernel
theorem d_Tu_winsBy_45 : decode I_Tu_winsBy.2.1 45 = .ok (.iload_n 2, 1) := by decide +kernel
theorem d_Tu_winsBy_46 : decode I_Tu_winsBy.2.1 46 = .ok (.iconst 3, 1) := by decide +kernel
theorem d_Tu_winsBy_47 : decode I_Tu_winsBy.2.1 47 = .ok (.if_icmp .ge 30, 3) := by decide +kernel
theorem d_Tu_winsBy_50 : decode I_Tu_winsBy.2.1 50 = .ok (.aload_n 0, 1) := by decide +kernel
theorem d_Tu_winsBy_51 : decode I_Tu_winsBy.2.1 51 = .ok (.getfield 9, 3) := by decide +kernel
theorem d_Tu_winsBy_54 : decode I_Tu_winsBy.2.1 54 = .ok (.aload_n 3, 1) := by decide +kernel
theorem d_Tu_winsBy_55 : decode I_Tu_winsBy.2.1 55 = .ok (.iload_n 1, 1) := by decide +kernel
theorem d_Tu_winsBy_56 : decode I_Tu_winsBy.2.1 56 = .ok (.iload_n 1, 1) := by decide +kernel
theorem d_Tu_winsBy_57 : decode I_Tu_winsBy.2.1 57 = .ok (.iconst 2, 1) := by decide +kernel
theorem d_Tu_winsBy_58 : decode I_Tu_winsBy.2.1 58 = .ok (.irem, 1) := by decide +kernel
theorem d_Tu_winsBy_59 : decode I_Tu_winsBy.2.1 59 = .ok (.ifCond .ne 10, 3) := by decide +kernel
theorem d_Tu_winsBy_62 : decode I_Tu_winsBy.2.1 62 = .ok (.aload_n 0, 1) := by decide +kernel
theorem d_Tu_winsBy_63 : decode I_Tu_winsBy.2.1 63 = .ok (.getfield 15, 3) := by decide +kernel
theorem d_Tu_winsBy_66 : decode I_Tu_winsBy.2.1 66 = .ok (.goto 7, 3) := by decide +kernel
theorem d_Tu_winsBy_69 : decode I_Tu_winsBy.2.1 69 = .ok (.aload_n 0, 1) := by decide +kernel
theorem d_Tu_winsBy_70 : decode I_Tu_winsBy.2.1 70 = .ok (.getfield 19, 3) := by decide +kernel
theorem d_Tu_winsBy_73 : decode I_Tu_winsBy.2.1 73 = .ok (.iload_n 2, 1) := by decide +kernel
theorem d_Tu_winsBy_74 : decode I_Tu_winsBy.2.1 74 = .ok (.invokevirtual 53, 3) := by decide +kernel
theorem d_Tu_winsBy_77 : decode I_Tu_winsBy.2.1 77 = .ok (.aload_n 0, 1) := by decide +kernel
theorem d_Tu_winsBy_78 : decode I_Tu_winsBy.2.1 78 = .ok (.getfield 9, 3) := by decide +kernel
theorem d_Tu_winsBy_81 : decode I_Tu_winsBy.2.1 81 = .ok (.aload_n 3, 1) := by decide +kernel
theorem d_Tu_winsBy_82 : decode I_Tu_winsBy.2.1 82 = .ok (.invokevirtual 57, 3) := by decide +kernel
theorem d_Tu_winsBy_85 : decode I_Tu_winsBy.2.1 85 = .ok (.iload_n 1, 1) := by decide +kernel
theorem d_Tu_winsBy_86 : decode I_Tu_winsBy.2.1 86 = .ok (.iconst 1, 1) := by decide +kernel
theorem d_Tu_winsBy_87 : decode I_Tu_winsBy.2.1 87 = .ok (.iadd, 1) := by decide +kernel
theorem d_Tu_winsBy_88 : decode I_Tu_winsBy.2.1 88 = .ok (.aload_n 0, 1) := by decide +kernel
theorem d_Tu_winsBy_89 : decode I_Tu_winsBy.2.1 89 = .ok (.getfield 22, 3) := by decide +kernel
theorem d_Tu_winsBy_92 : decode I_Tu_winsBy.2.1 92 = .ok (.if_icmp .lt 22, 3) := by decide +kernel
theorem d_Tu_winsBy_95 : decode I_Tu_winsBy.2.1 95 = .ok (.aload_n 3, 1) := by decide +kernel
theorem d_Tu_winsBy_96 : decode I_Tu_winsBy.2.1 96 = .ok (.getfield 60, 3) := by decide +kernel
theorem d_Tu_winsBy_99 : decode I_Tu_winsBy.2.1 99 = .ok (.aload_n 0, 1) := by decide +kernel
theorem d_Tu_winsBy_100 : decode I_Tu_winsBy.2.1 100 = .ok (.getfield 15, 3) := by decide +kernel
theorem d_Tu_winsBy_103 : decode I_Tu_winsBy.2.1 103 = .ok (.if_icmp .ne 7, 3) := by decide +kernel
theorem d_Tu_winsBy_106 : decode I_Tu_winsBy.2.1 106 = .ok (.iconst 1, 1) := by decide +kernel
theorem d_Tu_winsBy_107 : decode I_Tu_winsBy.2.1 107 = .ok (.goto 14, 3) := by decide +kernel
theorem d_Tu_winsBy_110 : decode I_Tu_winsBy.2.1 110 = .ok (.iconst 0, 1) := by decide +kernel
theorem d_Tu_winsBy_111 : decode I_Tu_winsBy.2.1 111 = .ok (.goto 10, 3) := by decide +kernel
theorem d_Tu_winsBy_114 : decode I_Tu_winsBy.2.1 114 = .ok (.aload_n 0, 1) := by decide +kernel
theorem d_Tu_winsBy_115 : decode I_Tu_winsBy.2.1 115 = .ok (.iload_n 1, 1) := by decide +kernel
theorem d_Tu_winsBy_116 : decode I_Tu_winsBy.2.1 116 = .ok (.iconst 1, 1) := by decide +kernel
theorem d_Tu_winsBy_117 : decode I_Tu_winsBy.2.1 117 = .ok (.iadd, 1) := by decide +kernel
theorem d_Tu_winsBy_118 : decode I_Tu_winsBy.2.1 118 = .ok (.invokevirtual 63, 3) := by decide +kernel
theorem d_Tu_winsBy_121 : decode I_Tu_winsBy.2.1 121 = .ok (.ireturn, 1) := by decide +kernel
theorem d_Tu_winsFrom_0 : decode I_Tu_winsFrom.2.1 0 = .ok (.iload_n 1, 1) := by decide +kernel
theorem d_Tu_winsFrom_1 : decode I_Tu_winsFrom.2.1 1 = .ok (.iconst 2, 1) := by decide +kernel
theorem d_Tu_winsFrom_2 : decode I_Tu_winsFrom.2.1 2 = .ok (.irem, 1) := by decide +kernel
theorem d_Tu_winsFrom_3 : decode I_Tu_winsFrom.2.1 3 = .ok (.ifCond .ne 7, 3) := by decide +kernel
theorem d_Tu_winsFrom_6 : decode I_Tu_winsFrom.2.1 6 = .ok (.iconst 1, 1) := by decide +kernel
theorem d_Tu_winsFrom_7 : decode I_Tu_winsFrom.2.1 7 = .ok (.goto 4, 3) := by decide +kernel
theorem d_Tu_winsFrom_10 : decode I_Tu_winsFrom.2.1 10 = .ok (.iconst 0, 1) := by decide +kernel
theorem d_Tu_winsFrom_11 : decode I_Tu_winsFrom.2.1 11 = .ok (.istore_n 2, 1) := by decide +kernel
theorem d_Tu_winsFrom_12 : decode I_Tu_winsFrom.2.1 12 = .ok (.iconst 0, 1) := by decide +kernel
theorem d_Tu_winsFrom_13 : decode I_Tu_winsFrom.2.1 13 = .ok (.istore_n 3, 1) := by decide +kernel
theorem d_Tu_winsFrom_14 : decode I_Tu_winsFrom.2.1 14 = .ok (.iload_n 3, 1) := by decide +kernel
theorem d_Tu_winsFrom_15 : decode I_Tu_winsFrom.2.1 15 = .ok (.iconst 3, 1) := by decide +kernel
theorem d_Tu_winsFrom_16 : decode I_Tu_winsFrom.2.1 16 = .ok (.if_icmp .gt 21, 3) := by decide +kernel
theorem d_Tu_winsFrom_19 : decode I_Tu_winsFrom.2.1 19 = .ok (.aload_n 0, 1) := by decide +kernel
theorem d_Tu_winsFrom_20 : decode I_Tu_winsFrom.2.1 20 = .ok (.iload_n 1, 1) := by decide +kernel
theorem d_Tu_winsFrom_21 : decode I_Tu_winsFrom.2.1 21 = .ok (.iload_n 3, 1) := by decide +kernel
theorem d_Tu_winsFrom_22 : decode I_Tu_winsFrom.2.1 22 = .ok (.invokevirtual 37, 3) := by decide +kernel
theorem d_Tu_winsFrom_25 : decode I_Tu_winsFrom.2.1 25 = .ok (.iload_n 2, 1) := by decide +kernel
theorem d_Tu_winsFrom_26 : decode I_Tu_winsFrom.2.1 26 = .ok (.if_icmp .ne 5, 3) := by decide +kernel
theorem d_Tu_winsFrom_29 : decode I_Tu_winsFrom.2.1 29 = .ok (.iload_n 2, 1) := by decide +kernel
theorem d_Tu_winsFrom_30 : decode I_Tu_winsFrom.2.1 30 = .ok (.ireturn, 1) := by decide +kernel
theorem d_Tu_winsFrom_31 : decode I_Tu_winsFrom.2.1 31 = .ok (.iinc 3 1, 3) := by decide +kernel
theorem d_Tu_winsFrom_34 : decode I_Tu_winsFrom.2.1 34 = .ok (.goto (-20), 3) := by decide +kernel
theorem d_Tu_winsFrom_37 : decode I_Tu_winsFrom.2.1 37 = .ok (.iload_n 2, 1) := by decide +kernel
theorem d_Tu_winsFrom_38 : decode I_Tu_winsFrom.2.1 38 = .ok (.ifCond .ne 7, 3) := by decide +kernel
theorem d_Tu_winsFrom_41 : decode I_Tu_winsFrom.2.1 41 = .ok (.iconst 1, 1) := by decide +kernel
theorem d_Tu_winsFrom_42 : decode I_Tu_winsFrom.2.1 42 = .ok (.goto 4, 3) := by decide +kernel
theorem d_Tu_winsFrom_45 : decode I_Tu_winsFrom.2.1 45 = .ok (.iconst 0, 1) := by decide +kernel
theorem d_Tu_winsFrom_46 : decode I_Tu_winsFrom.2.1 46 = .ok (.ireturn, 1) := by decide +kernel
theorem d_Vi_init_0 : decode I_Vi_init.2.1 0 = .ok (.aload_n 0, 1) := by decide +kernel
theorem d_Vi_init_1 : decode I_Vi_init.2.1 1 = .ok (.invokespecial 3, 3) := by decide +kernel
theorem d_Vi_init_4 : decode I_Vi_init.2.1 4 = .ok (.aload_n 0, 1) := by decide +kernel
theorem d_Vi_init_5 : decode I_Vi_init.2.1 5 = .ok (.bipush 24, 2) := by decide +kernel
theorem d_Vi_init_7 : decode I_Vi_init.2.1 7 = .ok (.newarray .int, 2) := by decide +kernel
theorem d_Vi_init_9 : decode I_Vi_init.2.1 9 = .ok (.putfield 9, 3) := by decide +kernel
theorem d_Vi_init_12 : decode I_Vi_init.2.1 12 = .ok (.aload_n 0, 1) := by decide +kernel
theorem d_Vi_init_13 : decode I_Vi_init.2.1 13 = .ok (.bipush 24, 2) := by decide +kernel
theorem d_Vi_init_15 : decode I_Vi_init.2.1 15 = .ok (.newarray .int, 2) := by decide +kernel
theorem d_Vi_init_17 : decode I_Vi_init.2.1 17 = .ok (.putfield 15, 3) := by decide +kernel
theorem d_Vi_init_20 : decode I_Vi_init.2.1 20 = .ok (.aload_n 0, 1) := by decide +kernel
theorem d_Vi_init_21 : decode I_Vi_init.2.1 21 = .ok (.bipush 24, 2) := by decide +kernel
theorem d_Vi_init_23 : decode I_Vi_init.2.1 23 = .ok (.newarray .int, 2) := by decide +kernel
theorem d_Vi_init_25 : decode I_Vi_init.2.1 25 = .ok (.putfield 18, 3) := by decide +kernel
theorem d_Vi_init_28 : decode I_Vi_init.2.1 28 = .ok (.aload_n 0, 1) := by decide +kernel
theorem d_Vi_init_29 : decode I_Vi_init.2.1 29 = .ok (.bipush 24, 2) := by decide +kernel
theorem d_Vi_init_31 : decode I_Vi_init.2.1 31 = .ok (.newarray .int, 2) := by decide +kernel
theorem d_Vi_init_33 : decode I_Vi_init.2.1 33 = .ok (.putfield 21, 3) := by decide +kernel
theorem d_Vi_init_36 : decode I_Vi_init.2.1 36 = .ok (.aload_n 0, 1) := by decide +kernel
theorem d_Vi_init_37 : decode I_Vi_init.2.1 37 = .ok (.bipush 31, 2) := by decide +kernel
theorem d_Vi_init_39 : decode I_Vi_init.2.1 39 = .ok (.newarray .int, 2) := by decide +kernel
theorem d_Vi_init_41 : decode I_Vi_init.2.1 41 = .ok (.putfield 24, 3) := by decide +kernel
theorem d_Vi_init_44 : decode I_Vi_init.2.1 44 = .ok (.return_, 1) := by decide +kernel
theorem d_Vi_tell_0 : decode I_Vi_tell.2.1 0 = .ok (.aload_n 0, 1) := by decide +kernel
theorem d_Vi_tell_1 : decode I_Vi_tell.2.1 1 = .ok (.getfield 9, 3) := by decide +kernel
theorem d_Vi_tell_4 : decode I_Vi_tell.2.1 4 = .ok (.aload_n 0, 1) := by decide +kernel
theorem d_Vi_tell_5 : decode I_Vi_tell.2.1 5 = .ok (.getfield 27, 3) := by decide +kernel
theorem d_Vi_tell_8 : decode I_Vi_tell.2.1 8 = .ok (.iload_n 1, 1) := by decide +kernel
theorem d_Vi_tell_9 : decode I_Vi_tell.2.1 9 = .ok (.iastore, 1) := by decide +kernel
theorem d_Vi_tell_10 : decode I_Vi_tell.2.1 10 = .ok (.aload_n 0, 1) := by decide +kernel
theorem d_Vi_tell_11 : decode I_Vi_tell.2.1 11 = .ok (.getfield 15, 3) := by decide +kernel
theorem d_Vi_tell_14 : decode I_Vi_tell.2.1 14 = .ok (.aload_n 0, 1) := by decide +kernel
theorem d_Vi_tell_15 : decode I_Vi_tell.2.1 15 = .ok (.getfield 27, 3) := by decide +kernel
theorem d_Vi_tell_18 : decode I_Vi_tell.2.1 18 = .ok (.iload_n 2, 1) := by decide +kernel
theorem d_Vi_tell_19 : decode I_Vi_tell.2.1 19 = .ok (.iastore, 1) := by decide +kernel
theorem d_Vi_tell_20 : decode I_Vi_tell.2.1 20 = .ok (.aload_n 0, 1) := by decide +kernel
theorem d_Vi_tell_21 : decode I_Vi_tell.2.1 21 = .ok (.getfield 18, 3) := by decide +kernel
theorem d_Vi_tell_24 : decode I_Vi_tell.2.1 24 = .ok (.aload_n 0, 1) := by decide +kernel
theorem d_Vi_tell_25 : decode I_Vi_tell.2.1 25 = .ok (.getfield 27, 3) := by decide +kernel
theorem d_Vi_tell_28 : decode I_Vi_tell.2.1 28 = .ok (.iload_n 3, 1) := by decide +kernel
theorem d_Vi_tell_29 : decode I_Vi_tell.2.1 29 = .ok (.iastore, 1) := by decide +kernel
theorem d_Vi_tell_30 : decode I_Vi_tell.2.1 30 = .ok (.aload_n 0, 1) := by decide +kernel
theorem d_Vi_tell_31 : decode I_Vi_tell.2.1 31 = .ok (.getfield 24, 3) := by decide +kernel
theorem d_Vi_tell_34 : decode I_Vi_tell.2.1 34 = .ok (.iload_n 1, 1) := by decide +kernel
theorem d_Vi_tell_35 : decode I_Vi_tell.2.1 35 = .ok (.iconst 1, 1) := by decide +kernel
theorem d_Vi_tell_36 : decode I_Vi_tell.2.1 36 = .ok (.iadd, 1) := by decide +kernel
theorem d_Vi_tell_37 : decode I_Vi_tell.2.1 37 = .ok (.iaload, 1) := by decide +kernel
theorem d_Vi_tell_38 : decode I_Vi_tell.2.1 38 = .ok (.istore 4, 2) := by decide +kernel
theorem d_Vi_tell_40 : decode I_Vi_tell.2.1 40 = .ok (.aload_n 0, 1) := by decide +kernel
theorem d_Vi_tell_41 : decode I_Vi_tell.2.1 41 = .ok (.getfield 27, 3) := by decide +kernel
theorem d_Vi_tell_44 : decode I_Vi_tell.2.1 44 = .ok (.istore 5, 2) := by decide +kernel
theorem d_Vi_tell_46 : decode I_Vi_tell.2.1 46 = .ok (.iload 5, 2) := by decide +kernel
theorem d_Vi_tell_48 : decode I_Vi_tell.2.1 48 = .ok (.iload 4, 2) := by decide +kernel
theorem d_Vi_tell_50 : decode I_Vi_tell.2.1 50 = .ok (.if_icmp .le 25, 3) := by decide +kernel
theorem d_Vi_tell_53 : decode I_Vi_tell.2.1 53 = .ok (.aload_n 0, 1) := by decide +kernel
theorem d_Vi_tell_54 : decode I_Vi_tell.2.1 54 = .ok (.getfield 21, 3) := by decide +kernel
theorem d_Vi_tell_57 : decode I_Vi_tell.2.1 57 = .ok (.iload 5, 2) := by decide +kernel
theorem d_Vi_tell_59 : decode I_Vi_tell.2.1 59 = .ok (.aload_n 0, 1) := by decide +kernel
theorem d_Vi_tell_60 : decode I_Vi_tell.2.1 60 = .ok (.getfield 21, 3) := by decide +kernel
theorem d_Vi_tell_63 : decode I_Vi_tell.2.1 63 = .ok (.iload 5, 2) := by decide +kernel
theorem d_Vi_tell_65 : decode I_Vi_tell.2.1 65 = .ok (.iconst 1, 1) := by decide +kernel
theorem d_Vi_tell_66 : decode I_Vi_tell.2.1 66 = .ok (.isub, 1) := by decide +kernel
theorem d_Vi_tell_67 : decode I_Vi_tell.2.1 67 = .ok (.iaload, 1) := by decide +kernel
theorem d_Vi_tell_68 : decode I_Vi_tell.2.1 68 = .ok (.iastore, 1) := by decide +kernel
theorem d_Vi_tell_69 : decode I_Vi_tell.2.1 69 = .ok (.iinc 5 (-1), 3) := by decide +kernel
theorem d_Vi_tell_72 : decode I_Vi_tell.2.1 72 = .ok (.goto (-26), 3) := by decide +kernel
theorem d_Vi_tell_75 : decode I_Vi_tell.2.1 75 = .ok (.aload_n 0, 1) := by decide +kernel
theorem d_Vi_tell_76 : decode I_Vi_tell.2.1 76 = .ok (.getfield 21, 3) := by decide +kernel
theorem d_Vi_tell_79 : decode I_Vi_tell.2.1 79 = .ok (.iload 4, 2) := by decide +kernel
theorem d_Vi_tell_81 : decode I_Vi_tell.2.1 81 = .ok (.aload_n 0, 1) := by decide +kernel
theorem d_Vi_tell_82 : decode I_Vi_tell.2.1 82 = .ok (.getfield 27, 3) := by decide +kernel
theorem d_Vi_tell_85 : decode I_Vi_tell.2.1 85 = .ok (.iastore, 1) := by decide +kernel
theorem d_Vi_tell_86 : decode I_Vi_tell.2.1 86 = .ok (.iload_n 1, 1) := by decide +kernel
theorem d_Vi_tell_87 : decode I_Vi_tell.2.1 87 = .ok (.iconst 1, 1) := by decide +kernel
theorem d_Vi_tell_88 : decode I_Vi_tell.2.1 88 = .ok (.iadd, 1) := by decide +kernel
theorem d_Vi_tell_89 : decode I_Vi_tell.2.1 89 = .ok (.istore 5, 2) := by decide +kernel
theorem d_Vi_tell_91 : decode I_Vi_tell.2.1 91 = .ok (.iload 5, 2) := by decide +kernel
theorem d_Vi_tell_93 : decode I_Vi_tell.2.1 93 = .ok (.bipush 30, 2) := by decide +kernel
theorem d_Vi_tell_95 : decode I_Vi_tell.2.1 95 = .ok (.if_icmp .gt 20, 3) := by decide +kernel
theorem d_Vi_tell_98 : decode I_Vi_tell.2.1 98 = .ok (.aload_n 0, 1) := by decide +kernel
theorem d_Vi_tell_99 : decode I_Vi_tell.2.1 99 = .ok (.getfield 24, 3) := by decide +kernel
theorem d_Vi_tell_102 : decode I_Vi_tell.2.1 102 = .ok (.iload 5, 2) := by decide +kernel
theorem d_Vi_tell_104 : decode I_Vi_tell.2.1 104 = .ok (.dup2, 1) := by decide +kernel
theorem d_Vi_tell_105 : decode I_Vi_tell.2.1 105 = .ok (.iaload, 1) := by decide +kernel
theorem d_Vi_tell_106 : decode I_Vi_tell.2.1 106 = .ok (.iconst 1, 1) := by decide +kernel
theorem d_Vi_tell_107 : decode I_Vi_tell.2.1 107 = .ok (.iadd, 1) := by decide +kernel
theorem d_Vi_tell_108 : decode I_Vi_tell.2.1 108 = .ok (.iastore, 1) := by decide +kernel
theorem d_Vi_tell_109 : decode I_Vi_tell.2.1 109 = .ok (.iinc 5 1, 3) := by decide +kernel
theorem d_Vi_tell_112 : decode I_Vi_tell.2.1 112 = .ok (.goto (-21), 3) := by decide +kernel
theorem d_Vi_tell_115 : decode I_Vi_tell.2.1 115 = .ok (.aload_n 0, 1) := by decide +kernel
theorem d_Vi_tell_116 : decode I_Vi_tell.2.1 116 = .ok (.dup, 1) := by decide +kernel
theorem d_Vi_tell_117 : decode I_Vi_tell.2.1 117 = .ok (.getfield 27, 3) := by decide +kernel
theorem d_Vi_tell_120 : decode I_Vi_tell.2.1 120 = .ok (.iconst 1, 1) := by decide +kernel
theorem d_Vi_tell_121 : decode I_Vi_tell.2.1 121 = .ok (.iadd, 1) := by decide +kernel
theorem d_Vi_tell_122 : decode I_Vi_tell.2.1 122 = .ok (.putfield 27, 3) := by decide +kernel
theorem d_Vi_tell_125 : decode I_Vi_tell.2.1 125 = .ok (.return_, 1) := by decide +kernel
theorem d_Vi_untell_0 : decode I_Vi_untell.2.1 0 = .ok (.aload_n 0, 1) := by decide +kernel
theorem d_Vi_untell_1 : decode I_Vi_untell.2.1 1 = .ok (.dup, 1) := by decide +kernel
theorem d_Vi_untell_2 : decode I_Vi_untell.2.1 2 = .ok (.getfield 27, 3) := by decide +kernel
theorem d_Vi_untell_5 : decode I_Vi_untell.2.1 5 = .ok (.iconst 1, 1) := by decide +kernel
theorem d_Vi_untell_6 : decode I_Vi_untell.2.1 6 = .ok (.isub, 1) := by decide +kernel
theorem d_Vi_untell_7 : decode I_Vi_untell.2.1 7 = .ok (.putfield 27, 3) := by decide +kernel
theorem d_Vi_untell_10 : decode I_Vi_untell.2.1 10 = .ok (.aload_n 0, 1) := by decide +kernel
theorem d_Vi_untell_11 : decode I_Vi_untell.2.1 11 = .ok (.getfield 9, 3) := by decide +kernel
theorem d_Vi_untell_14 : decode I_Vi_untell.2.1 14 = .ok (.aload_n 0, 1) := by decide +kernel
theorem d_Vi_untell_15 : decode I_Vi_untell.2.1 15 = .ok (.getfield 27, 3) := by decide +kernel
theorem d_Vi_untell_18 : decode I_Vi_untell.2.1 18 = .ok (.iaload, 1) := by decide +kernel
theorem d_Vi_untell_19 : decode I_Vi_untell.2.1 19 = .ok (.istore_n 1, 1) := by decide +kernel
theorem d_Vi_untell_20 : decode I_Vi_untell.2.1 20 = .ok (.iload_n 1, 1) := by decide +kernel
theorem d_Vi_untell_21 : decode I_Vi_untell.2.1 21 = .ok (.iconst 1, 1) := by decide +kernel
theorem d_Vi_untell_22 : decode I_Vi_untell.2.1 22 = .ok (.iadd, 1) := by decide +kernel
theorem d_Vi_untell_23 : decode I_Vi_untell.2.1 23 = .ok (.istore_n 2, 1) := by decide +kernel
theorem d_Vi_untell_24 : decode I_Vi_untell.2.1 24 = .ok (.iload_n 2, 1) := by decide +kernel
theorem d_Vi_untell_25 : decode I_Vi_untell.2.1 25 = .ok (.bipush 30, 2) := by decide +kernel
theorem d_Vi_untell_27 : decode I_Vi_untell.2.1 27 = .ok (.if_icmp .gt 19, 3) := by decide +kernel
theorem d_Vi_untell_30 : decode I_Vi_untell.2.1 30 = .ok (.aload_n 0, 1) := by decide +kernel
theorem d_Vi_untell_31 : decode I_Vi_untell.2.1 31 = .ok (.getfield 24, 3) := by decide +kernel
theorem d_Vi_untell_34 : decode I_Vi_untell.2.1 34 = .ok (.iload_n 2, 1) := by decide +kernel
theorem d_Vi_untell_35 : decode I_Vi_untell.2.1 35 = .ok (.dup2, 1) := by decide +kernel
theorem d_Vi_untell_36 : decode I_Vi_untell.2.1 36 = .ok (.iaload, 1) := by decide +kernel
theorem d_Vi_untell_37 : decode I_Vi_untell.2.1 37 = .ok (.iconst 1, 1) := by decide +kernel
theorem d_Vi_untell_38 : decode I_Vi_untell.2.1 38 = .ok (.isub, 1) := by decide +kernel
theorem d_Vi_untell_39 : decode I_Vi_untell.2.1 39 = .ok (.iastore, 1) := by decide +kernel
theorem d_Vi_untell_40 : decode I_Vi_untell.2.1 40 = .ok (.iinc 2 1, 3) := by decide +kernel
theorem d_Vi_untell_43 : decode I_Vi_untell.2.1 43 = .ok (.goto (-19), 3) := by decide +kernel
theorem d_Vi_untell_46 : decode I_Vi_untell.2.1 46 = .ok (.aload_n 0, 1) := by decide +kernel
theorem d_Vi_untell_47 : decode I_Vi_untell.2.1 47 = .ok (.getfield 24, 3) := by decide +kernel
theorem d_Vi_untell_50 : decode I_Vi_untell.2.1 50 = .ok (.iload_n 1, 1) := by decide +kernel
theorem d_Vi_untell_51 : decode I_Vi_untell.2.1 51 = .ok (.iconst 1, 1) := by decide +kernel
theorem d_Vi_untell_52 : decode I_Vi_untell.2.1 52 = .ok (.iadd, 1) := by decide +kernel
theorem d_Vi_untell_53 : decode I_Vi_untell.2.1 53 = .ok (.iaload, 1) := by decide +kernel
theorem d_Vi_untell_54 : decode I_Vi_untell.2.1 54 = .ok (.istore_n 2, 1) := by decide +kernel
theorem d_Vi_untell_55 : decode I_Vi_untell.2.1 55 = .ok (.iload_n 2, 1) := by decide +kernel
theorem d_Vi_untell_56 : decode I_Vi_untell.2.1 56 = .ok (.aload_n 0, 1) := by decide +kernel
theorem d_Vi_untell_57 : decode I_Vi_untell.2.1 57 = .ok (.getfield 27, 3) := by decide +kernel
theorem d_Vi_untell_60 : decode I_Vi_untell.2.1 60 = .ok (.if_icmp .ge 23, 3) := by decide +kernel
theorem d_Vi_untell_63 : decode I_Vi_untell.2.1 63 = .ok (.aload_n 0, 1) := by decide +kernel
theorem d_Vi_untell_64 : decode I_Vi_untell.2.1 64 = .ok (.getfield 21, 3) := by decide +kernel
theorem d_Vi_untell_67 : decode I_Vi_untell.2.1 67 = .ok (.iload_n 2, 1) := by decide +kernel
theorem d_Vi_untell_68 : decode I_Vi_untell.2.1 68 = .ok (.aload_n 0, 1) := by decide +kernel
theorem d_Vi_untell_69 : decode I_Vi_untell.2.1 69 = .ok (.getfield 21, 3) := by decide +kernel
theorem d_Vi_untell_72 : decode I_Vi_untell.2.1 72 = .ok (.iload_n 2, 1) := by decide +kernel
theorem d_Vi_untell_73 : decode I_Vi_untell.2.1 73 = .ok (.iconst 1, 1) := by decide +kernel
theorem d_Vi_untell_74 : decode I_Vi_untell.2.1 74 = .ok (.iadd, 1) := by decide +kernel
theorem d_Vi_untell_75 : decode I_Vi_untell.2.1 75 = .ok (.iaload, 1) := by decide +kernel
theorem d_Vi_untell_76 : decode I_Vi_untell.2.1 76 = .ok (.iastore, 1) := by decide +kernel
theorem d_Vi_untell_77 : decode I_Vi_untell.2.1 77 = .ok (.iinc 2 1, 3) := by decide +kernel
theorem d_Vi_untell_80 : decode I_Vi_untell.2.1 80 = .ok (.goto (-25), 3) := by decide +kernel
theorem d_Vi_untell_83 : decode I_Vi_untell.2.1 83 = .ok (.return_, 1) := by decide +kernel
theorem d_Vi_heirAt_0 : decode I_Vi_heirAt.2.1 0 = .ok (.aload_n 0, 1) := by decide +kernel
theorem d_Vi_heirAt_1 : decode I_Vi_heirAt.2.1 1 = .ok (.getfield 15, 3) := by decide +kernel
theorem d_Vi_heirAt_4 : decode I_Vi_heirAt.2.1 4 = .ok (.aload_n 0, 1) := by decide +kernel
theorem d_Vi_heirAt_5 : decode I_Vi_heirAt.2.1 5 = .ok (.getfield 21, 3) := by decide +kernel
theorem d_Vi_heirAt_8 : decode I_Vi_heirAt.2.1 8 = .ok (.iload_n 1, 1) := by decide +kernel
theorem d_Vi_heirAt_9 : decode I_Vi_heirAt.2.1 9 = .ok (.iaload, 1) := by decide +kernel
theorem d_Vi_heirAt_10 : decode I_Vi_heirAt.2.1 10 = .ok (.iaload, 1) := by decide +kernel
theorem d_Vi_heirAt_11 : decode I_Vi_heirAt.2.1 11 = .ok (.ireturn, 1) := by decide +kernel
theorem d_Vi_thingAt_0 : decode I_Vi_thingAt.2.1 0 = .ok (.aload_n 0, 1) := by decide +kernel
theorem d_Vi_thingAt_1 : decode I_Vi_thingAt.2.1 1 = .ok (.getfield 18, 3) := by decide +kernel
theorem d_Vi_thingAt_4 : decode I_Vi_thingAt.2.1 4 = .ok (.aload_n 0, 1) := by decide +kernel
theorem d_Vi_thingAt_5 : decode I_Vi_thingAt.2.1 5 = .ok (.getfield 21, 3) := by decide +kernel
theorem d_Vi_thingAt_8 : decode I_Vi_thingAt.2.1 8 = .ok (.iload_n 1, 1) := by decide +kernel
theorem d_Vi_thingAt_9 : decode I_Vi_thingAt.2.1 9 = .ok (.iaload, 1) := by decide +kernel
theorem d_Vi_thingAt_10 : decode I_Vi_thingAt.2.1 10 = .ok (.iaload, 1) := by decide +kernel
theorem d_Vi_thingAt_11 : decode I_Vi_thingAt.2.1 11 = .ok (.ireturn, 1) := by decide +kernel
