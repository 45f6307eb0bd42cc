/-! DECODE ROWS, by program out of the listing -/
theorem d_R_init_0 : decode I_R_init.2.1 0 = .ok (.aload_n 0, 1) := by decide +kernel
theorem d_R_init_1 : decode I_R_init.2.1 1 = .ok (.invokespecial 1, 3) := by decide +kernel
theorem d_R_init_4 : decode I_R_init.2.1 4 = .ok (.aload_n 0, 1) := by decide +kernel
theorem d_R_init_5 : decode I_R_init.2.1 5 = .ok (.bipush 23, 2) := by decide +kernel
theorem d_R_init_7 : decode I_R_init.2.1 7 = .ok (.newarray .int, 2) := by decide +kernel
theorem d_R_init_9 : decode I_R_init.2.1 9 = .ok (.putfield 7, 3) := by decide +kernel
theorem d_R_init_12 : decode I_R_init.2.1 12 = .ok (.aload_n 0, 1) := by decide +kernel
theorem d_R_init_13 : decode I_R_init.2.1 13 = .ok (.bipush 21, 2) := by decide +kernel
theorem d_R_init_15 : decode I_R_init.2.1 15 = .ok (.newarray .int, 2) := by decide +kernel
theorem d_R_init_17 : decode I_R_init.2.1 17 = .ok (.putfield 13, 3) := by decide +kernel
theorem d_R_init_20 : decode I_R_init.2.1 20 = .ok (.aload_n 0, 1) := by decide +kernel
theorem d_R_init_21 : decode I_R_init.2.1 21 = .ok (.bipush 6, 2) := by decide +kernel
theorem d_R_init_23 : decode I_R_init.2.1 23 = .ok (.newarray .int, 2) := by decide +kernel
theorem d_R_init_25 : decode I_R_init.2.1 25 = .ok (.putfield 16, 3) := by decide +kernel
theorem d_R_init_28 : decode I_R_init.2.1 28 = .ok (.aload_n 0, 1) := by decide +kernel
theorem d_R_init_29 : decode I_R_init.2.1 29 = .ok (.bipush 24, 2) := by decide +kernel
theorem d_R_init_31 : decode I_R_init.2.1 31 = .ok (.newarray .int, 2) := by decide +kernel
theorem d_R_init_33 : decode I_R_init.2.1 33 = .ok (.putfield 19, 3) := by decide +kernel
theorem d_R_init_36 : decode I_R_init.2.1 36 = .ok (.aload_n 0, 1) := by decide +kernel
theorem d_R_init_37 : decode I_R_init.2.1 37 = .ok (.bipush 24, 2) := by decide +kernel
theorem d_R_init_39 : decode I_R_init.2.1 39 = .ok (.newarray .int, 2) := by decide +kernel
theorem d_R_init_41 : decode I_R_init.2.1 41 = .ok (.putfield 22, 3) := by decide +kernel
theorem d_R_init_44 : decode I_R_init.2.1 44 = .ok (.aload_n 0, 1) := by decide +kernel
theorem d_R_init_45 : decode I_R_init.2.1 45 = .ok (.bipush 24, 2) := by decide +kernel
theorem d_R_init_47 : decode I_R_init.2.1 47 = .ok (.newarray .int, 2) := by decide +kernel
theorem d_R_init_49 : decode I_R_init.2.1 49 = .ok (.putfield 25, 3) := by decide +kernel
theorem d_R_init_52 : decode I_R_init.2.1 52 = .ok (.aload_n 0, 1) := by decide +kernel
theorem d_R_init_53 : decode I_R_init.2.1 53 = .ok (.bipush 30, 2) := by decide +kernel
theorem d_R_init_55 : decode I_R_init.2.1 55 = .ok (.newarray .int, 2) := by decide +kernel
theorem d_R_init_57 : decode I_R_init.2.1 57 = .ok (.putfield 28, 3) := by decide +kernel
theorem d_R_init_60 : decode I_R_init.2.1 60 = .ok (.aload_n 0, 1) := by decide +kernel
theorem d_R_init_61 : decode I_R_init.2.1 61 = .ok (.bipush 30, 2) := by decide +kernel
theorem d_R_init_63 : decode I_R_init.2.1 63 = .ok (.newarray .int, 2) := by decide +kernel
theorem d_R_init_65 : decode I_R_init.2.1 65 = .ok (.putfield 31, 3) := by decide +kernel
theorem d_R_init_68 : decode I_R_init.2.1 68 = .ok (.aload_n 0, 1) := by decide +kernel
theorem d_R_init_69 : decode I_R_init.2.1 69 = .ok (.bipush 30, 2) := by decide +kernel
theorem d_R_init_71 : decode I_R_init.2.1 71 = .ok (.newarray .int, 2) := by decide +kernel
theorem d_R_init_73 : decode I_R_init.2.1 73 = .ok (.putfield 34, 3) := by decide +kernel
theorem d_R_init_76 : decode I_R_init.2.1 76 = .ok (.aload_n 0, 1) := by decide +kernel
theorem d_R_init_77 : decode I_R_init.2.1 77 = .ok (.bipush 6, 2) := by decide +kernel
theorem d_R_init_79 : decode I_R_init.2.1 79 = .ok (.newarray .int, 2) := by decide +kernel
theorem d_R_init_81 : decode I_R_init.2.1 81 = .ok (.putfield 37, 3) := by decide +kernel
theorem d_R_init_84 : decode I_R_init.2.1 84 = .ok (.aload_n 0, 1) := by decide +kernel
theorem d_R_init_85 : decode I_R_init.2.1 85 = .ok (.bipush 6, 2) := by decide +kernel
theorem d_R_init_87 : decode I_R_init.2.1 87 = .ok (.newarray .int, 2) := by decide +kernel
theorem d_R_init_89 : decode I_R_init.2.1 89 = .ok (.putfield 40, 3) := by decide +kernel
theorem d_R_init_92 : decode I_R_init.2.1 92 = .ok (.aload_n 0, 1) := by decide +kernel
theorem d_R_init_93 : decode I_R_init.2.1 93 = .ok (.bipush 30, 2) := by decide +kernel
theorem d_R_init_95 : decode I_R_init.2.1 95 = .ok (.newarray .int, 2) := by decide +kernel
theorem d_R_init_97 : decode I_R_init.2.1 97 = .ok (.putfield 43, 3) := by decide +kernel
theorem d_R_init_100 : decode I_R_init.2.1 100 = .ok (.aload_n 0, 1) := by decide +kernel
theorem d_R_init_101 : decode I_R_init.2.1 101 = .ok (.bipush 30, 2) := by decide +kernel
theorem d_R_init_103 : decode I_R_init.2.1 103 = .ok (.newarray .int, 2) := by decide +kernel
theorem d_R_init_105 : decode I_R_init.2.1 105 = .ok (.putfield 46, 3) := by decide +kernel
theorem d_R_init_108 : decode I_R_init.2.1 108 = .ok (.aload_n 0, 1) := by decide +kernel
theorem d_R_init_109 : decode I_R_init.2.1 109 = .ok (.iconst 3, 1) := by decide +kernel
theorem d_R_init_110 : decode I_R_init.2.1 110 = .ok (.newarray .int, 2) := by decide +kernel
theorem d_R_init_112 : decode I_R_init.2.1 112 = .ok (.putfield 49, 3) := by decide +kernel
theorem d_R_init_115 : decode I_R_init.2.1 115 = .ok (.aload_n 0, 1) := by decide +kernel
theorem d_R_init_116 : decode I_R_init.2.1 116 = .ok (.sipush 256, 3) := by decide +kernel
theorem d_R_init_119 : decode I_R_init.2.1 119 = .ok (.newarray .boolean, 2) := by decide +kernel
theorem d_R_init_121 : decode I_R_init.2.1 121 = .ok (.putfield 52, 3) := by decide +kernel
theorem d_R_init_124 : decode I_R_init.2.1 124 = .ok (.aload_n 0, 1) := by decide +kernel
theorem d_R_init_125 : decode I_R_init.2.1 125 = .ok (.bipush 8, 2) := by decide +kernel
theorem d_R_init_127 : decode I_R_init.2.1 127 = .ok (.newarray .int, 2) := by decide +kernel
theorem d_R_init_129 : decode I_R_init.2.1 129 = .ok (.putfield 56, 3) := by decide +kernel
theorem d_R_init_132 : decode I_R_init.2.1 132 = .ok (.aload_n 0, 1) := by decide +kernel
theorem d_R_init_133 : decode I_R_init.2.1 133 = .ok (.bipush 8, 2) := by decide +kernel
theorem d_R_init_135 : decode I_R_init.2.1 135 = .ok (.newarray .int, 2) := by decide +kernel
theorem d_R_init_137 : decode I_R_init.2.1 137 = .ok (.putfield 59, 3) := by decide +kernel
theorem d_R_init_140 : decode I_R_init.2.1 140 = .ok (.aload_n 0, 1) := by decide +kernel
theorem d_R_init_141 : decode I_R_init.2.1 141 = .ok (.sipush 1000, 3) := by decide +kernel
theorem d_R_init_144 : decode I_R_init.2.1 144 = .ok (.newarray .boolean, 2) := by decide +kernel
theorem d_R_init_146 : decode I_R_init.2.1 146 = .ok (.putfield 62, 3) := by decide +kernel
theorem d_R_init_149 : decode I_R_init.2.1 149 = .ok (.aload_n 0, 1) := by decide +kernel
theorem d_R_init_150 : decode I_R_init.2.1 150 = .ok (.bipush 7, 2) := by decide +kernel
theorem d_R_init_152 : decode I_R_init.2.1 152 = .ok (.newarray .int, 2) := by decide +kernel
theorem d_R_init_154 : decode I_R_init.2.1 154 = .ok (.putfield 65, 3) := by decide +kernel
theorem d_R_init_157 : decode I_R_init.2.1 157 = .ok (.aload_n 0, 1) := by decide +kernel
theorem d_R_init_158 : decode I_R_init.2.1 158 = .ok (.iconst 4, 1) := by decide +kernel
theorem d_R_init_159 : decode I_R_init.2.1 159 = .ok (.newarray .boolean, 2) := by decide +kernel
theorem d_R_init_161 : decode I_R_init.2.1 161 = .ok (.putfield 68, 3) := by decide +kernel
theorem d_R_init_164 : decode I_R_init.2.1 164 = .ok (.aload_n 0, 1) := by decide +kernel
theorem d_R_init_165 : decode I_R_init.2.1 165 = .ok (.iconst 4, 1) := by decide +kernel
theorem d_R_init_166 : decode I_R_init.2.1 166 = .ok (.newarray .int, 2) := by decide +kernel
theorem d_R_init_168 : decode I_R_init.2.1 168 = .ok (.putfield 71, 3) := by decide +kernel
theorem d_R_init_171 : decode I_R_init.2.1 171 = .ok (.aload_n 0, 1) := by decide +kernel
theorem d_R_init_172 : decode I_R_init.2.1 172 = .ok (.iconst 4, 1) := by decide +kernel
theorem d_R_init_173 : decode I_R_init.2.1 173 = .ok (.newarray .int, 2) := by decide +kernel
theorem d_R_init_175 : decode I_R_init.2.1 175 = .ok (.putfield 74, 3) := by decide +kernel
theorem d_R_init_178 : decode I_R_init.2.1 178 = .ok (.aload_n 0, 1) := by decide +kernel
theorem d_R_init_179 : decode I_R_init.2.1 179 = .ok (.sipush 192, 3) := by decide +kernel
theorem d_R_init_182 : decode I_R_init.2.1 182 = .ok (.newarray .int, 2) := by decide +kernel
theorem d_R_init_184 : decode I_R_init.2.1 184 = .ok (.putfield 77, 3) := by decide +kernel
theorem d_R_init_187 : decode I_R_init.2.1 187 = .ok (.aload_n 0, 1) := by decide +kernel
theorem d_R_init_188 : decode I_R_init.2.1 188 = .ok (.bipush 48, 2) := by decide +kernel
theorem d_R_init_190 : decode I_R_init.2.1 190 = .ok (.newarray .int, 2) := by decide +kernel
theorem d_R_init_192 : decode I_R_init.2.1 192 = .ok (.putfield 80, 3) := by decide +kernel
theorem d_R_init_195 : decode I_R_init.2.1 195 = .ok (.iconst 0, 1) := by decide +kernel
theorem d_R_init_196 : decode I_R_init.2.1 196 = .ok (.istore_n 1, 1) := by decide +kernel
theorem d_R_init_197 : decode I_R_init.2.1 197 = .ok (.iload_n 1, 1) := by decide +kernel
theorem d_R_init_198 : decode I_R_init.2.1 198 = .ok (.bipush 6, 2) := by decide +kernel
theorem d_R_init_200 : decode I_R_init.2.1 200 = .ok (.if_icmp .ge 16, 3) := by decide +kernel
theorem d_R_init_203 : decode I_R_init.2.1 203 = .ok (.aload_n 0, 1) := by decide +kernel
theorem d_R_init_204 : decode I_R_init.2.1 204 = .ok (.getfield 16, 3) := by decide +kernel
theorem d_R_init_207 : decode I_R_init.2.1 207 = .ok (.iload_n 1, 1) := by decide +kernel
theorem d_R_init_208 : decode I_R_init.2.1 208 = .ok (.iconst 1, 1) := by decide +kernel
theorem d_R_init_209 : decode I_R_init.2.1 209 = .ok (.iastore, 1) := by decide +kernel
theorem d_R_init_210 : decode I_R_init.2.1 210 = .ok (.iinc 1 1, 3) := by decide +kernel
theorem d_R_init_213 : decode I_R_init.2.1 213 = .ok (.goto (-16), 3) := by decide +kernel
theorem d_R_init_216 : decode I_R_init.2.1 216 = .ok (.aload_n 0, 1) := by decide +kernel
theorem d_R_init_217 : decode I_R_init.2.1 217 = .ok (.iconst 1, 1) := by decide +kernel
theorem d_R_init_218 : decode I_R_init.2.1 218 = .ok (.putfield 83, 3) := by decide +kernel
theorem d_R_init_221 : decode I_R_init.2.1 221 = .ok (.aload_n 0, 1) := by decide +kernel
theorem d_R_init_222 : decode I_R_init.2.1 222 = .ok (.iconst 3, 1) := by decide +kernel
theorem d_R_init_223 : decode I_R_init.2.1 223 = .ok (.putfield 87, 3) := by decide +kernel
theorem d_R_init_226 : decode I_R_init.2.1 226 = .ok (.aload_n 0, 1) := by decide +kernel
theorem d_R_init_227 : decode I_R_init.2.1 227 = .ok (.iconst 2, 1) := by decide +kernel
theorem d_R_init_228 : decode I_R_init.2.1 228 = .ok (.putfield 90, 3) := by decide +kernel
theorem d_R_init_231 : decode I_R_init.2.1 231 = .ok (.return_, 1) := by decide +kernel
theorem d_R_in_0 : decode I_R_in.2.1 0 = .ok (.iload_n 0, 1) := by decide +kernel
theorem d_R_in_1 : decode I_R_in.2.1 1 = .ok (.iload_n 1, 1) := by decide +kernel
theorem d_R_in_2 : decode I_R_in.2.1 2 = .ok (.if_icmp .lt 12, 3) := by decide +kernel
theorem d_R_in_5 : decode I_R_in.2.1 5 = .ok (.iload_n 0, 1) := by decide +kernel
theorem d_R_in_6 : decode I_R_in.2.1 6 = .ok (.iload_n 2, 1) := by decide +kernel
theorem d_R_in_7 : decode I_R_in.2.1 7 = .ok (.if_icmp .gt 7, 3) := by decide +kernel
theorem d_R_in_10 : decode I_R_in.2.1 10 = .ok (.iconst 1, 1) := by decide +kernel
theorem d_R_in_11 : decode I_R_in.2.1 11 = .ok (.goto 4, 3) := by decide +kernel
theorem d_R_in_14 : decode I_R_in.2.1 14 = .ok (.iconst 0, 1) := by decide +kernel
theorem d_R_in_15 : decode I_R_in.2.1 15 = .ok (.ireturn, 1) := by decide +kernel
theorem d_R_isIn_0 : decode I_R_isIn.2.1 0 = .ok (.iload_n 0, 1) := by decide +kernel
theorem d_R_isIn_1 : decode I_R_isIn.2.1 1 = .ok (.iload_n 1, 1) := by decide +kernel
theorem d_R_isIn_2 : decode I_R_isIn.2.1 2 = .ok (.ishr, 1) := by decide +kernel
theorem d_R_isIn_3 : decode I_R_isIn.2.1 3 = .ok (.iconst 1, 1) := by decide +kernel
theorem d_R_isIn_4 : decode I_R_isIn.2.1 4 = .ok (.iand, 1) := by decide +kernel
theorem d_R_isIn_5 : decode I_R_isIn.2.1 5 = .ok (.iconst 1, 1) := by decide +kernel
theorem d_R_isIn_6 : decode I_R_isIn.2.1 6 = .ok (.if_icmp .ne 7, 3) := by decide +kernel
theorem d_R_isIn_9 : decode I_R_isIn.2.1 9 = .ok (.iconst 1, 1) := by decide +kernel
theorem d_R_isIn_10 : decode I_R_isIn.2.1 10 = .ok (.goto 4, 3) := by decide +kernel
theorem d_R_isIn_13 : decode I_R_isIn.2.1 13 = .ok (.iconst 0, 1) := by decide +kernel
theorem d_R_isIn_14 : decode I_R_isIn.2.1 14 = .ok (.ireturn, 1) := by decide +kernel
theorem d_R_no_0 : decode I_R_no.2.1 0 = .ok (.ldc2_w 93, 3) := by decide +kernel
theorem d_R_no_3 : decode I_R_no.2.1 3 = .ok (.iload_n 0, 1) := by decide +kernel
theorem d_R_no_4 : decode I_R_no.2.1 4 = .ok (.i2l, 1) := by decide +kernel
theorem d_R_no_5 : decode I_R_no.2.1 5 = .ok (.lsub, 1) := by decide +kernel
theorem d_R_no_6 : decode I_R_no.2.1 6 = .ok (.lreturn, 1) := by decide +kernel
theorem d_R_lowest_0 : decode I_R_lowest.2.1 0 = .ok (.lload_n 0, 1) := by decide +kernel
theorem d_R_lowest_1 : decode I_R_lowest.2.1 1 = .ok (.lstore 5, 2) := by decide +kernel
theorem d_R_lowest_3 : decode I_R_lowest.2.1 3 = .ok (.lload_n 2, 1) := by decide +kernel
theorem d_R_lowest_4 : decode I_R_lowest.2.1 4 = .ok (.lstore 7, 2) := by decide +kernel
theorem d_R_lowest_6 : decode I_R_lowest.2.1 6 = .ok (.lload 7, 2) := by decide +kernel
theorem d_R_lowest_8 : decode I_R_lowest.2.1 8 = .ok (.lconst 0, 1) := by decide +kernel
theorem d_R_lowest_9 : decode I_R_lowest.2.1 9 = .ok (.lcmp, 1) := by decide +kernel
theorem d_R_lowest_10 : decode I_R_lowest.2.1 10 = .ok (.ifCond .eq 21, 3) := by decide +kernel
theorem d_R_lowest_13 : decode I_R_lowest.2.1 13 = .ok (.lload 5, 2) := by decide +kernel
theorem d_R_lowest_15 : decode I_R_lowest.2.1 15 = .ok (.lload 7, 2) := by decide +kernel
theorem d_R_lowest_17 : decode I_R_lowest.2.1 17 = .ok (.lrem, 1) := by decide +kernel
theorem d_R_lowest_18 : decode I_R_lowest.2.1 18 = .ok (.lstore 9, 2) := by decide +kernel
theorem d_R_lowest_20 : decode I_R_lowest.2.1 20 = .ok (.lload 7, 2) := by decide +kernel
theorem d_R_lowest_22 : decode I_R_lowest.2.1 22 = .ok (.lstore 5, 2) := by decide +kernel
theorem d_R_lowest_24 : decode I_R_lowest.2.1 24 = .ok (.lload 9, 2) := by decide +kernel
theorem d_R_lowest_26 : decode I_R_lowest.2.1 26 = .ok (.lstore 7, 2) := by decide +kernel
theorem d_R_lowest_28 : decode I_R_lowest.2.1 28 = .ok (.goto (-22), 3) := by decide +kernel
theorem d_R_lowest_31 : decode I_R_lowest.2.1 31 = .ok (.iload 4, 2) := by decide +kernel
theorem d_R_lowest_33 : decode I_R_lowest.2.1 33 = .ok (.ifCond .ne 10, 3) := by decide +kernel
theorem d_R_lowest_36 : decode I_R_lowest.2.1 36 = .ok (.lload_n 0, 1) := by decide +kernel
theorem d_R_lowest_37 : decode I_R_lowest.2.1 37 = .ok (.lload 5, 2) := by decide +kernel
theorem d_R_lowest_39 : decode I_R_lowest.2.1 39 = .ok (.ldiv, 1) := by decide +kernel
theorem d_R_lowest_40 : decode I_R_lowest.2.1 40 = .ok (.goto 7, 3) := by decide +kernel
theorem d_R_lowest_43 : decode I_R_lowest.2.1 43 = .ok (.lload_n 2, 1) := by decide +kernel
theorem d_R_lowest_44 : decode I_R_lowest.2.1 44 = .ok (.lload 5, 2) := by decide +kernel
theorem d_R_lowest_46 : decode I_R_lowest.2.1 46 = .ok (.ldiv, 1) := by decide +kernel
theorem d_R_lowest_47 : decode I_R_lowest.2.1 47 = .ok (.lreturn, 1) := by decide +kernel
theorem d_R_isSix_0 : decode I_R_isSix.2.1 0 = .ok (.iload_n 0, 1) := by decide +kernel
theorem d_R_isSix_1 : decode I_R_isSix.2.1 1 = .ok (.iconst 0, 1) := by decide +kernel
theorem d_R_isSix_2 : decode I_R_isSix.2.1 2 = .ok (.iconst 5, 1) := by decide +kernel
theorem d_R_isSix_3 : decode I_R_isSix.2.1 3 = .ok (.invokestatic 95, 3) := by decide +kernel
theorem d_R_isSix_6 : decode I_R_isSix.2.1 6 = .ok (.ireturn, 1) := by decide +kernel
theorem d_R_isDay_0 : decode I_R_isDay.2.1 0 = .ok (.iload_n 0, 1) := by decide +kernel
theorem d_R_isDay_1 : decode I_R_isDay.2.1 1 = .ok (.iconst 0, 1) := by decide +kernel
theorem d_R_isDay_2 : decode I_R_isDay.2.1 2 = .ok (.bipush 29, 2) := by decide +kernel
theorem d_R_isDay_4 : decode I_R_isDay.2.1 4 = .ok (.invokestatic 95, 3) := by decide +kernel
theorem d_R_isDay_7 : decode I_R_isDay.2.1 7 = .ok (.ireturn, 1) := by decide +kernel
theorem d_R_isThing_0 : decode I_R_isThing.2.1 0 = .ok (.iload_n 0, 1) := by decide +kernel
theorem d_R_isThing_1 : decode I_R_isThing.2.1 1 = .ok (.iconst 0, 1) := by decide +kernel
theorem d_R_isThing_2 : decode I_R_isThing.2.1 2 = .ok (.iconst 2, 1) := by decide +kernel
theorem d_R_isThing_3 : decode I_R_isThing.2.1 3 = .ok (.invokestatic 95, 3) := by decide +kernel
theorem d_R_isThing_6 : decode I_R_isThing.2.1 6 = .ok (.ireturn, 1) := by decide +kernel
theorem d_R_type_0 : decode I_R_type.2.1 0 = .ok (.iload_n 1, 1) := by decide +kernel
theorem d_R_type_1 : decode I_R_type.2.1 1 = .ok (.iconst 0, 1) := by decide +kernel
theorem d_R_type_2 : decode I_R_type.2.1 2 = .ok (.sipush 255, 3) := by decide +kernel
theorem d_R_type_5 : decode I_R_type.2.1 5 = .ok (.invokestatic 95, 3) := by decide +kernel
theorem d_R_type_8 : decode I_R_type.2.1 8 = .ok (.ifCond .ne 6, 3) := by decide +kernel
theorem d_R_type_11 : decode I_R_type.2.1 11 = .ok (.bipush (-2), 2) := by decide +kernel
theorem d_R_type_13 : decode I_R_type.2.1 13 = .ok (.ireturn, 1) := by decide +kernel
theorem d_R_type_14 : decode I_R_type.2.1 14 = .ok (.aload_n 0, 1) := by decide +kernel
theorem d_R_type_15 : decode I_R_type.2.1 15 = .ok (.getfield 99, 3) := by decide +kernel
theorem d_R_type_18 : decode I_R_type.2.1 18 = .ok (.bipush 23, 2) := by decide +kernel
theorem d_R_type_20 : decode I_R_type.2.1 20 = .ok (.if_icmp .ne 6, 3) := by decide +kernel
theorem d_R_type_23 : decode I_R_type.2.1 23 = .ok (.bipush (-4), 2) := by decide +kernel
theorem d_R_type_25 : decode I_R_type.2.1 25 = .ok (.ireturn, 1) := by decide +kernel
theorem d_R_type_26 : decode I_R_type.2.1 26 = .ok (.aload_n 0, 1) := by decide +kernel
theorem d_R_type_27 : decode I_R_type.2.1 27 = .ok (.getfield 7, 3) := by decide +kernel
theorem d_R_type_30 : decode I_R_type.2.1 30 = .ok (.aload_n 0, 1) := by decide +kernel
theorem d_R_type_31 : decode I_R_type.2.1 31 = .ok (.getfield 99, 3) := by decide +kernel
theorem d_R_type_34 : decode I_R_type.2.1 34 = .ok (.iload_n 1, 1) := by decide +kernel
theorem d_R_type_35 : decode I_R_type.2.1 35 = .ok (.iastore, 1) := by decide +kernel
theorem d_R_type_36 : decode I_R_type.2.1 36 = .ok (.aload_n 0, 1) := by decide +kernel
theorem d_R_type_37 : decode I_R_type.2.1 37 = .ok (.dup, 1) := by decide +kernel
theorem d_R_type_38 : decode I_R_type.2.1 38 = .ok (.getfield 99, 3) := by decide +kernel
theorem d_R_type_41 : decode I_R_type.2.1 41 = .ok (.iconst 1, 1) := by decide +kernel
theorem d_R_type_42 : decode I_R_type.2.1 42 = .ok (.iadd, 1) := by decide +kernel
theorem d_R_type_43 : decode I_R_type.2.1 43 = .ok (.putfield 99, 3) := by decide +kernel
theorem d_R_type_46 : decode I_R_type.2.1 46 = .ok (.aload_n 0, 1) := by decide +kernel
theorem d_R_type_47 : decode I_R_type.2.1 47 = .ok (.getfield 99, 3) := by decide +kernel
theorem d_R_type_50 : decode I_R_type.2.1 50 = .ok (.ireturn, 1) := by decide +kernel
theorem d_R_wipe_0 : decode I_R_wipe.2.1 0 = .ok (.aload_n 0, 1) := by decide +kernel
theorem d_R_wipe_1 : decode I_R_wipe.2.1 1 = .ok (.getfield 99, 3) := by decide +kernel
theorem d_R_wipe_4 : decode I_R_wipe.2.1 4 = .ok (.istore_n 1, 1) := by decide +kernel
theorem d_R_wipe_5 : decode I_R_wipe.2.1 5 = .ok (.aload_n 0, 1) := by decide +kernel
theorem d_R_wipe_6 : decode I_R_wipe.2.1 6 = .ok (.iconst 0, 1) := by decide +kernel
theorem d_R_wipe_7 : decode I_R_wipe.2.1 7 = .ok (.putfield 99, 3) := by decide +kernel
theorem d_R_wipe_10 : decode I_R_wipe.2.1 10 = .ok (.iload_n 1, 1) := by decide +kernel
theorem d_R_wipe_11 : decode I_R_wipe.2.1 11 = .ok (.ireturn, 1) := by decide +kernel
theorem d_R_undo_0 : decode I_R_undo.2.1 0 = .ok (.aload_n 0, 1) := by decide +kernel
theorem d_R_undo_1 : decode I_R_undo.2.1 1 = .ok (.getfield 99, 3) := by decide +kernel
theorem d_R_undo_4 : decode I_R_undo.2.1 4 = .ok (.ifCond .ne 6, 3) := by decide +kernel
theorem d_R_undo_7 : decode I_R_undo.2.1 7 = .ok (.bipush (-3), 2) := by decide +kernel
theorem d_R_undo_9 : decode I_R_undo.2.1 9 = .ok (.ireturn, 1) := by decide +kernel
theorem d_R_undo_10 : decode I_R_undo.2.1 10 = .ok (.aload_n 0, 1) := by decide +kernel
theorem d_R_undo_11 : decode I_R_undo.2.1 11 = .ok (.dup, 1) := by decide +kernel
theorem d_R_undo_12 : decode I_R_undo.2.1 12 = .ok (.getfield 99, 3) := by decide +kernel
theorem d_R_undo_15 : decode I_R_undo.2.1 15 = .ok (.iconst 1, 1) := by decide +kernel
theorem d_R_undo_16 : decode I_R_undo.2.1 16 = .ok (.isub, 1) := by decide +kernel
theorem d_R_undo_17 : decode I_R_undo.2.1 17 = .ok (.putfield 99, 3) := by decide +kernel
theorem d_R_undo_20 : decode I_R_undo.2.1 20 = .ok (.aload_n 0, 1) := by decide +kernel
theorem d_R_undo_21 : decode I_R_undo.2.1 21 = .ok (.getfield 99, 3) := by decide +kernel
theorem d_R_undo_24 : decode I_R_undo.2.1 24 = .ok (.ireturn, 1) := by decide +kernel
theorem d_R_faultNow_0 : decode I_R_faultNow.2.1 0 = .ok (.aload_n 0, 1) := by decide +kernel
theorem d_R_faultNow_1 : decode I_R_faultNow.2.1 1 = .ok (.iconst 0, 1) := by decide +kernel
theorem d_R_faultNow_2 : decode I_R_faultNow.2.1 2 = .ok (.putfield 102, 3) := by decide +kernel
theorem d_R_faultNow_5 : decode I_R_faultNow.2.1 5 = .ok (.iconst 0, 1) := by decide +kernel
theorem d_R_faultNow_6 : decode I_R_faultNow.2.1 6 = .ok (.istore_n 1, 1) := by decide +kernel
theorem d_R_faultNow_7 : decode I_R_faultNow.2.1 7 = .ok (.iconst 0, 1) := by decide +kernel
theorem d_R_faultNow_8 : decode I_R_faultNow.2.1 8 = .ok (.istore_n 2, 1) := by decide +kernel
theorem d_R_faultNow_9 : decode I_R_faultNow.2.1 9 = .ok (.iload_n 2, 1) := by decide +kernel
theorem d_R_faultNow_10 : decode I_R_faultNow.2.1 10 = .ok (.aload_n 0, 1) := by decide +kernel
theorem d_R_faultNow_11 : decode I_R_faultNow.2.1 11 = .ok (.getfield 99, 3) := by decide +kernel
theorem d_R_faultNow_14 : decode I_R_faultNow.2.1 14 = .ok (.if_icmp .lt 7, 3) := by decide +kernel
theorem d_R_faultNow_17 : decode I_R_faultNow.2.1 17 = .ok (.iload_n 2, 1) := by decide +kernel
theorem d_R_faultNow_18 : decode I_R_faultNow.2.1 18 = .ok (.ifCond .le 120, 3) := by decide +kernel
theorem d_R_faultNow_21 : decode I_R_faultNow.2.1 21 = .ok (.iconst 0, 1) := by decide +kernel
theorem d_R_faultNow_22 : decode I_R_faultNow.2.1 22 = .ok (.istore_n 3, 1) := by decide +kernel
theorem d_R_faultNow_23 : decode I_R_faultNow.2.1 23 = .ok (.iload_n 1, 1) := by decide +kernel
theorem d_R_faultNow_24 : decode I_R_faultNow.2.1 24 = .ok (.bipush 6, 2) := by decide +kernel
theorem d_R_faultNow_26 : decode I_R_faultNow.2.1 26 = .ok (.if_icmp .ge 63, 3) := by decide +kernel
theorem d_R_faultNow_29 : decode I_R_faultNow.2.1 29 = .ok (.iload_n 3, 1) := by decide +kernel
theorem d_R_faultNow_30 : decode I_R_faultNow.2.1 30 = .ok (.iconst 3, 1) := by decide +kernel
theorem d_R_faultNow_31 : decode I_R_faultNow.2.1 31 = .ok (.if_icmp .ge 58, 3) := by decide +kernel
theorem d_R_faultNow_34 : decode I_R_faultNow.2.1 34 = .ok (.iload_n 2, 1) := by decide +kernel
theorem d_R_faultNow_35 : decode I_R_faultNow.2.1 35 = .ok (.iload_n 3, 1) := by decide +kernel
theorem d_R_faultNow_36 : decode I_R_faultNow.2.1 36 = .ok (.iadd, 1) := by decide +kernel
theorem d_R_faultNow_37 : decode I_R_faultNow.2.1 37 = .ok (.aload_n 0, 1) := by decide +kernel
theorem d_R_faultNow_38 : decode I_R_faultNow.2.1 38 = .ok (.getfield 99, 3) := by decide +kernel
theorem d_R_faultNow_41 : decode I_R_faultNow.2.1 41 = .ok (.if_icmp .ge 48, 3) := by decide +kernel
theorem d_R_faultNow_44 : decode I_R_faultNow.2.1 44 = .ok (.aload_n 0, 1) := by decide +kernel
theorem d_R_faultNow_45 : decode I_R_faultNow.2.1 45 = .ok (.getfield 7, 3) := by decide +kernel
theorem d_R_faultNow_48 : decode I_R_faultNow.2.1 48 = .ok (.iload_n 2, 1) := by decide +kernel
theorem d_R_faultNow_49 : decode I_R_faultNow.2.1 49 = .ok (.iload_n 3, 1) := by decide +kernel
theorem d_R_faultNow_50 : decode I_R_faultNow.2.1 50 = .ok (.iadd, 1) := by decide +kernel
theorem d_R_faultNow_51 : decode I_R_faultNow.2.1 51 = .ok (.iaload, 1) := by decide +kernel
theorem d_R_faultNow_52 : decode I_R_faultNow.2.1 52 = .ok (.bipush 48, 2) := by decide +kernel
theorem d_R_faultNow_54 : decode I_R_faultNow.2.1 54 = .ok (.bipush 57, 2) := by decide +kernel
theorem d_R_faultNow_56 : decode I_R_faultNow.2.1 56 = .ok (.invokestatic 95, 3) := by decide +kernel
theorem d_R_faultNow_59 : decode I_R_faultNow.2.1 59 = .ok (.ifCond .eq 30, 3) := by decide +kernel
theorem d_R_faultNow_62 : decode I_R_faultNow.2.1 62 = .ok (.aload_n 0, 1) := by decide +kernel
theorem d_R_faultNow_63 : decode I_R_faultNow.2.1 63 = .ok (.getfield 13, 3) := by decide +kernel
theorem d_R_faultNow_66 : decode I_R_faultNow.2.1 66 = .ok (.iconst 3, 1) := by decide +kernel
theorem d_R_faultNow_67 : decode I_R_faultNow.2.1 67 = .ok (.iload_n 1, 1) := by decide +kernel
theorem d_R_faultNow_68 : decode I_R_faultNow.2.1 68 = .ok (.imul, 1) := by decide +kernel
theorem d_R_faultNow_69 : decode I_R_faultNow.2.1 69 = .ok (.iload_n 3, 1) := by decide +kernel
theorem d_R_faultNow_70 : decode I_R_faultNow.2.1 70 = .ok (.iadd, 1) := by decide +kernel
theorem d_R_faultNow_71 : decode I_R_faultNow.2.1 71 = .ok (.aload_n 0, 1) := by decide +kernel
theorem d_R_faultNow_72 : decode I_R_faultNow.2.1 72 = .ok (.getfield 7, 3) := by decide +kernel
theorem d_R_faultNow_75 : decode I_R_faultNow.2.1 75 = .ok (.iload_n 2, 1) := by decide +kernel
theorem d_R_faultNow_76 : decode I_R_faultNow.2.1 76 = .ok (.iload_n 3, 1) := by decide +kernel
theorem d_R_faultNow_77 : decode I_R_faultNow.2.1 77 = .ok (.iadd, 1) := by decide +kernel
theorem d_R_faultNow_78 : decode I_R_faultNow.2.1 78 = .ok (.iaload, 1) := by decide +kernel
theorem d_R_faultNow_79 : decode I_R_faultNow.2.1 79 = .ok (.bipush 48, 2) := by decide +kernel
theorem d_R_faultNow_81 : decode I_R_faultNow.2.1 81 = .ok (.isub, 1) := by decide +kernel
theorem d_R_faultNow_82 : decode I_R_faultNow.2.1 82 = .ok (.iastore, 1) := by decide +kernel
theorem d_R_faultNow_83 : decode I_R_faultNow.2.1 83 = .ok (.iinc 3 1, 3) := by decide +kernel
theorem d_R_faultNow_86 : decode I_R_faultNow.2.1 86 = .ok (.goto (-63), 3) := by decide +kernel
theorem d_R_faultNow_89 : decode I_R_faultNow.2.1 89 = .ok (.iload_n 3, 1) := by decide +kernel
theorem d_R_faultNow_90 : decode I_R_faultNow.2.1 90 = .ok (.iconst 3, 1) := by decide +kernel
theorem d_R_faultNow_91 : decode I_R_faultNow.2.1 91 = .ok (.if_icmp .ge 7, 3) := by decide +kernel
theorem d_R_faultNow_94 : decode I_R_faultNow.2.1 94 = .ok (.iload_n 2, 1) := by decide +kernel
theorem d_R_faultNow_95 : decode I_R_faultNow.2.1 95 = .ok (.iload_n 3, 1) := by decide +kernel
theorem d_R_faultNow_96 : decode I_R_faultNow.2.1 96 = .ok (.iadd, 1) := by decide +kernel
theorem d_R_faultNow_97 : decode I_R_faultNow.2.1 97 = .ok (.ireturn, 1) := by decide +kernel
theorem d_R_faultNow_98 : decode I_R_faultNow.2.1 98 = .ok (.iinc 1 1, 3) := by decide +kernel
theorem d_R_faultNow_101 : decode I_R_faultNow.2.1 101 = .ok (.iinc 2 3, 3) := by decide +kernel
theorem d_R_faultNow_104 : decode I_R_faultNow.2.1 104 = .ok (.iload_n 2, 1) := by decide +kernel
theorem d_R_faultNow_105 : decode I_R_faultNow.2.1 105 = .ok (.aload_n 0, 1) := by decide +kernel
theorem d_R_faultNow_106 : decode I_R_faultNow.2.1 106 = .ok (.getfield 99, 3) := by decide +kernel
theorem d_R_faultNow_109 : decode I_R_faultNow.2.1 109 = .ok (.if_icmp .ne 10, 3) := by decide +kernel
theorem d_R_faultNow_112 : decode I_R_faultNow.2.1 112 = .ok (.aload_n 0, 1) := by decide +kernel
theorem d_R_faultNow_113 : decode I_R_faultNow.2.1 113 = .ok (.iload_n 1, 1) := by decide +kernel
theorem d_R_faultNow_114 : decode I_R_faultNow.2.1 114 = .ok (.putfield 102, 3) := by decide +kernel
theorem d_R_faultNow_117 : decode I_R_faultNow.2.1 117 = .ok (.iconst (-1), 1) := by decide +kernel
theorem d_R_faultNow_118 : decode I_R_faultNow.2.1 118 = .ok (.ireturn, 1) := by decide +kernel
theorem d_R_faultNow_119 : decode I_R_faultNow.2.1 119 = .ok (.aload_n 0, 1) := by decide +kernel
theorem d_R_faultNow_120 : decode I_R_faultNow.2.1 120 = .ok (.getfield 7, 3) := by decide +kernel
theorem d_R_faultNow_123 : decode I_R_faultNow.2.1 123 = .ok (.iload_n 2, 1) := by decide +kernel
theorem d_R_faultNow_124 : decode I_R_faultNow.2.1 124 = .ok (.iaload, 1) := by decide +kernel
theorem d_R_faultNow_125 : decode I_R_faultNow.2.1 125 = .ok (.bipush 59, 2) := by decide +kernel
theorem d_R_faultNow_127 : decode I_R_faultNow.2.1 127 = .ok (.if_icmp .eq 5, 3) := by decide +kernel
theorem d_R_faultNow_130 : decode I_R_faultNow.2.1 130 = .ok (.iload_n 2, 1) := by decide +kernel
theorem d_R_faultNow_131 : decode I_R_faultNow.2.1 131 = .ok (.ireturn, 1) := by decide +kernel
theorem d_R_faultNow_132 : decode I_R_faultNow.2.1 132 = .ok (.iinc 2 1, 3) := by decide +kernel
theorem d_R_faultNow_135 : decode I_R_faultNow.2.1 135 = .ok (.goto (-126), 3) := by decide +kernel
theorem d_R_faultNow_138 : decode I_R_faultNow.2.1 138 = .ok (.iconst (-1), 1) := by decide +kernel
theorem d_R_faultNow_139 : decode I_R_faultNow.2.1 139 = .ok (.ireturn, 1) := by decide +kernel
theorem d_R_fault_0 : decode I_R_fault.2.1 0 = .ok (.aload_n 0, 1) := by decide +kernel
theorem d_R_fault_1 : decode I_R_fault.2.1 1 = .ok (.invokevirtual 105, 3) := by decide +kernel
theorem d_R_fault_4 : decode I_R_fault.2.1 4 = .ok (.ireturn, 1) := by decide +kernel
theorem d_R_reads_0 : decode I_R_reads.2.1 0 = .ok (.aload_n 0, 1) := by decide +kernel
theorem d_R_reads_1 : decode I_R_reads.2.1 1 = .ok (.invokevirtual 105, 3) := by decide +kernel
theorem d_R_reads_4 : decode I_R_reads.2.1 4 = .ok (.istore_n 1, 1) := by decide +kernel
theorem d_R_reads_5 : decode I_R_reads.2.1 5 = .ok (.return_, 1) := by decide +kernel
theorem d_R_isHeir_0 : decode I_R_isHeir.2.1 0 = .ok (.aload_n 0, 1) := by decide +kernel
theorem d_R_isHeir_1 : decode I_R_isHeir.2.1 1 = .ok (.invokevirtual 109, 3) := by decide +kernel
theorem d_R_isHeir_4 : decode I_R_isHeir.2.1 4 = .ok (.iload_n 1, 1) := by decide +kernel
theorem d_R_isHeir_5 : decode I_R_isHeir.2.1 5 = .ok (.iconst 0, 1) := by decide +kernel
theorem d_R_isHeir_6 : decode I_R_isHeir.2.1 6 = .ok (.aload_n 0, 1) := by decide +kernel
theorem d_R_isHeir_7 : decode I_R_isHeir.2.1 7 = .ok (.getfield 102, 3) := by decide +kernel
theorem d_R_isHeir_10 : decode I_R_isHeir.2.1 10 = .ok (.iconst 1, 1) := by decide +kernel
theorem d_R_isHeir_11 : decode I_R_isHeir.2.1 11 = .ok (.isub, 1) := by decide +kernel
theorem d_R_isHeir_12 : decode I_R_isHeir.2.1 12 = .ok (.invokestatic 95, 3) := by decide +kernel
theorem d_R_isHeir_15 : decode I_R_isHeir.2.1 15 = .ok (.ireturn, 1) := by decide +kernel
theorem d_R_good_0 : decode I_R_good.2.1 0 = .ok (.aload_n 0, 1) := by decide +kernel
theorem d_R_good_1 : decode I_R_good.2.1 1 = .ok (.iload_n 1, 1) := by decide +kernel
theorem d_R_good_2 : decode I_R_good.2.1 2 = .ok (.invokevirtual 112, 3) := by decide +kernel
theorem d_R_good_5 : decode I_R_good.2.1 5 = .ok (.ifCond .eq 23, 3) := by decide +kernel
theorem d_R_good_8 : decode I_R_good.2.1 8 = .ok (.iload_n 2, 1) := by decide +kernel
theorem d_R_good_9 : decode I_R_good.2.1 9 = .ok (.invokestatic 116, 3) := by decide +kernel
theorem d_R_good_12 : decode I_R_good.2.1 12 = .ok (.ifCond .eq 16, 3) := by decide +kernel
theorem d_R_good_15 : decode I_R_good.2.1 15 = .ok (.aload_n 0, 1) := by decide +kernel
theorem d_R_good_16 : decode I_R_good.2.1 16 = .ok (.getfield 13, 3) := by decide +kernel
theorem d_R_good_19 : decode I_R_good.2.1 19 = .ok (.iconst 3, 1) := by decide +kernel
theorem d_R_good_20 : decode I_R_good.2.1 20 = .ok (.iload_n 1, 1) := by decide +kernel
theorem d_R_good_21 : decode I_R_good.2.1 21 = .ok (.imul, 1) := by decide +kernel
theorem d_R_good_22 : decode I_R_good.2.1 22 = .ok (.iload_n 2, 1) := by decide +kernel
theorem d_R_good_23 : decode I_R_good.2.1 23 = .ok (.iadd, 1) := by decide +kernel
theorem d_R_good_24 : decode I_R_good.2.1 24 = .ok (.iaload, 1) := by decide +kernel
theorem d_R_good_25 : decode I_R_good.2.1 25 = .ok (.goto 5, 3) := by decide +kernel
theorem d_R_good_28 : decode I_R_good.2.1 28 = .ok (.bipush (-2), 2) := by decide +kernel
theorem d_R_good_30 : decode I_R_good.2.1 30 = .ok (.ireturn, 1) := by decide +kernel
theorem d_R_taste_0 : decode I_R_taste.2.1 0 = .ok (.iload_n 1, 1) := by decide +kernel
theorem d_R_taste_1 : decode I_R_taste.2.1 1 = .ok (.iconst 0, 1) := by decide +kernel
theorem d_R_taste_2 : decode I_R_taste.2.1 2 = .ok (.iconst 1, 1) := by decide +kernel
theorem d_R_taste_3 : decode I_R_taste.2.1 3 = .ok (.invokestatic 95, 3) := by decide +kernel
theorem d_R_taste_6 : decode I_R_taste.2.1 6 = .ok (.ifCond .eq 20, 3) := by decide +kernel
theorem d_R_taste_9 : decode I_R_taste.2.1 9 = .ok (.iload_n 2, 1) := by decide +kernel
theorem d_R_taste_10 : decode I_R_taste.2.1 10 = .ok (.invokestatic 116, 3) := by decide +kernel
theorem d_R_taste_13 : decode I_R_taste.2.1 13 = .ok (.ifCond .eq 13, 3) := by decide +kernel
theorem d_R_taste_16 : decode I_R_taste.2.1 16 = .ok (.iload_n 3, 1) := by decide +kernel
theorem d_R_taste_17 : decode I_R_taste.2.1 17 = .ok (.iconst 0, 1) := by decide +kernel
theorem d_R_taste_18 : decode I_R_taste.2.1 18 = .ok (.bipush 9, 2) := by decide +kernel
theorem d_R_taste_20 : decode I_R_taste.2.1 20 = .ok (.invokestatic 95, 3) := by decide +kernel
theorem d_R_taste_23 : decode I_R_taste.2.1 23 = .ok (.ifCond .ne 6, 3) := by decide +kernel
theorem d_R_taste_26 : decode I_R_taste.2.1 26 = .ok (.bipush (-2), 2) := by decide +kernel
theorem d_R_taste_28 : decode I_R_taste.2.1 28 = .ok (.ireturn, 1) := by decide +kernel
theorem d_R_taste_29 : decode I_R_taste.2.1 29 = .ok (.aload_n 0, 1) := by decide +kernel
theorem d_R_taste_30 : decode I_R_taste.2.1 30 = .ok (.getfield 16, 3) := by decide +kernel
theorem d_R_taste_33 : decode I_R_taste.2.1 33 = .ok (.iconst 3, 1) := by decide +kernel
theorem d_R_taste_34 : decode I_R_taste.2.1 34 = .ok (.iload_n 1, 1) := by decide +kernel
theorem d_R_taste_35 : decode I_R_taste.2.1 35 = .ok (.imul, 1) := by decide +kernel
theorem d_R_taste_36 : decode I_R_taste.2.1 36 = .ok (.iload_n 2, 1) := by decide +kernel
theorem d_R_taste_37 : decode I_R_taste.2.1 37 = .ok (.iadd, 1) := by decide +kernel
theorem d_R_taste_38 : decode I_R_taste.2.1 38 = .ok (.iaload, 1) := by decide +kernel
theorem d_R_taste_39 : decode I_R_taste.2.1 39 = .ok (.istore 4, 2) := by decide +kernel
theorem d_R_taste_41 : decode I_R_taste.2.1 41 = .ok (.aload_n 0, 1) := by decide +kernel
theorem d_R_taste_42 : decode I_R_taste.2.1 42 = .ok (.getfield 16, 3) := by decide +kernel
theorem d_R_taste_45 : decode I_R_taste.2.1 45 = .ok (.iconst 3, 1) := by decide +kernel
theorem d_R_taste_46 : decode I_R_taste.2.1 46 = .ok (.iload_n 1, 1) := by decide +kernel
theorem d_R_taste_47 : decode I_R_taste.2.1 47 = .ok (.imul, 1) := by decide +kernel
theorem d_R_taste_48 : decode I_R_taste.2.1 48 = .ok (.iload_n 2, 1) := by decide +kernel
theorem d_R_taste_49 : decode I_R_taste.2.1 49 = .ok (.iadd, 1) := by decide +kernel
theorem d_R_taste_50 : decode I_R_taste.2.1 50 = .ok (.iload_n 3, 1) := by decide +kernel
theorem d_R_taste_51 : decode I_R_taste.2.1 51 = .ok (.iastore, 1) := by decide +kernel
theorem d_R_taste_52 : decode I_R_taste.2.1 52 = .ok (.iload 4, 2) := by decide +kernel
theorem d_R_taste_54 : decode I_R_taste.2.1 54 = .ok (.ireturn, 1) := by decide +kernel
theorem d_R_set_0 : decode I_R_set.2.1 0 = .ok (.iload_n 1, 1) := by decide +kernel
theorem d_R_set_1 : decode I_R_set.2.1 1 = .ok (.iconst 0, 1) := by decide +kernel
theorem d_R_set_2 : decode I_R_set.2.1 2 = .ok (.iconst 4, 1) := by decide +kernel
theorem d_R_set_3 : decode I_R_set.2.1 3 = .ok (.invokestatic 95, 3) := by decide +kernel
theorem d_R_set_6 : decode I_R_set.2.1 6 = .ok (.ifCond .eq 23, 3) := by decide +kernel
theorem d_R_set_9 : decode I_R_set.2.1 9 = .ok (.iload_n 2, 1) := by decide +kernel
theorem d_R_set_10 : decode I_R_set.2.1 10 = .ok (.iconst 0, 1) := by decide +kernel
theorem d_R_set_11 : decode I_R_set.2.1 11 = .ok (.iload_n 1, 1) := by decide +kernel
theorem d_R_set_12 : decode I_R_set.2.1 12 = .ok (.iconst 3, 1) := by decide +kernel
theorem d_R_set_13 : decode I_R_set.2.1 13 = .ok (.if_icmp .ne 8, 3) := by decide +kernel
theorem d_R_set_16 : decode I_R_set.2.1 16 = .ok (.ldc 119, 2) := by decide +kernel
theorem d_R_set_18 : decode I_R_set.2.1 18 = .ok (.goto 5, 3) := by decide +kernel
theorem d_R_set_21 : decode I_R_set.2.1 21 = .ok (.bipush 9, 2) := by decide +kernel
theorem d_R_set_23 : decode I_R_set.2.1 23 = .ok (.invokestatic 95, 3) := by decide +kernel
theorem d_R_set_26 : decode I_R_set.2.1 26 = .ok (.ifCond .ne 6, 3) := by decide +kernel
theorem d_R_set_29 : decode I_R_set.2.1 29 = .ok (.bipush (-2), 2) := by decide +kernel
theorem d_R_set_31 : decode I_R_set.2.1 31 = .ok (.ireturn, 1) := by decide +kernel
theorem d_R_set_32 : decode I_R_set.2.1 32 = .ok (.iload_n 1, 1) := by decide +kernel
theorem d_R_set_33 : decode I_R_set.2.1 33 = .ok (.ifCond .ne 10, 3) := by decide +kernel
theorem d_R_set_36 : decode I_R_set.2.1 36 = .ok (.aload_n 0, 1) := by decide +kernel
theorem d_R_set_37 : decode I_R_set.2.1 37 = .ok (.getfield 83, 3) := by decide +kernel
theorem d_R_set_40 : decode I_R_set.2.1 40 = .ok (.goto 43, 3) := by decide +kernel
theorem d_R_set_43 : decode I_R_set.2.1 43 = .ok (.iload_n 1, 1) := by decide +kernel
theorem d_R_set_44 : decode I_R_set.2.1 44 = .ok (.iconst 1, 1) := by decide +kernel
theorem d_R_set_45 : decode I_R_set.2.1 45 = .ok (.if_icmp .ne 10, 3) := by decide +kernel
theorem d_R_set_48 : decode I_R_set.2.1 48 = .ok (.aload_n 0, 1) := by decide +kernel
theorem d_R_set_49 : decode I_R_set.2.1 49 = .ok (.getfield 87, 3) := by decide +kernel
theorem d_R_set_52 : decode I_R_set.2.1 52 = .ok (.goto 31, 3) := by decide +kernel
theorem d_R_set_55 : decode I_R_set.2.1 55 = .ok (.iload_n 1, 1) := by decide +kernel
theorem d_R_set_56 : decode I_R_set.2.1 56 = .ok (.iconst 2, 1) := by decide +kernel
theorem d_R_set_57 : decode I_R_set.2.1 57 = .ok (.if_icmp .ne 10, 3) := by decide +kernel
theorem d_R_set_60 : decode I_R_set.2.1 60 = .ok (.aload_n 0, 1) := by decide +kernel
theorem d_R_set_61 : decode I_R_set.2.1 61 = .ok (.getfield 120, 3) := by decide +kernel
theorem d_R_set_64 : decode I_R_set.2.1 64 = .ok (.goto 19, 3) := by decide +kernel
theorem d_R_set_67 : decode I_R_set.2.1 67 = .ok (.iload_n 1, 1) := by decide +kernel
theorem d_R_set_68 : decode I_R_set.2.1 68 = .ok (.iconst 3, 1) := by decide +kernel
theorem d_R_set_69 : decode I_R_set.2.1 69 = .ok (.if_icmp .ne 10, 3) := by decide +kernel
theorem d_R_set_72 : decode I_R_set.2.1 72 = .ok (.aload_n 0, 1) := by decide +kernel
theorem d_R_set_73 : decode I_R_set.2.1 73 = .ok (.getfield 123, 3) := by decide +kernel
theorem d_R_set_76 : decode I_R_set.2.1 76 = .ok (.goto 7, 3) := by decide +kernel
theorem d_R_set_79 : decode I_R_set.2.1 79 = .ok (.aload_n 0, 1) := by decide +kernel
theorem d_R_set_80 : decode I_R_set.2.1 80 = .ok (.getfield 90, 3) := by decide +kernel
theorem d_R_set_83 : decode I_R_set.2.1 83 = .ok (.istore_n 3, 1) := by decide +kernel
theorem d_R_set_84 : decode I_R_set.2.1 84 = .ok (.aload_n 0, 1) := by decide +kernel
theorem d_R_set_85 : decode I_R_set.2.1 85 = .ok (.iload_n 1, 1) := by decide +kernel
theorem d_R_set_86 : decode I_R_set.2.1 86 = .ok (.ifCond .ne 7, 3) := by decide +kernel
theorem d_R_set_89 : decode I_R_set.2.1 89 = .ok (.iload_n 2, 1) := by decide +kernel
theorem d_R_set_90 : decode I_R_set.2.1 90 = .ok (.goto 7, 3) := by decide +kernel
theorem d_R_set_93 : decode I_R_set.2.1 93 = .ok (.aload_n 0, 1) := by decide +kernel
theorem d_R_set_94 : decode I_R_set.2.1 94 = .ok (.getfield 83, 3) := by decide +kernel
theorem d_R_set_97 : decode I_R_set.2.1 97 = .ok (.putfield 83, 3) := by decide +kernel
theorem d_R_set_100 : decode I_R_set.2.1 100 = .ok (.aload_n 0, 1) := by decide +kernel
theorem d_R_set_101 : decode I_R_set.2.1 101 = .ok (.iload_n 1, 1) := by decide +kernel
theorem d_R_set_102 : decode I_R_set.2.1 102 = .ok (.iconst 1, 1) := by decide +kernel
theorem d_R_set_103 : decode I_R_set.2.1 103 = .ok (.if_icmp .ne 7, 3) := by decide +kernel
theorem d_R_set_106 : decode I_R_set.2.1 106 = .ok (.iload_n 2, 1) := by decide +kernel
theorem d_R_set_107 : decode I_R_set.2.1 107 = .ok (.goto 7, 3) := by decide +kernel
theorem d_R_set_110 : decode I_R_set.2.1 110 = .ok (.aload_n 0, 1) := by decide +kernel
theorem d_R_set_111 : decode I_R_set.2.1 111 = .ok (.getfield 87, 3) := by decide +kernel
theorem d_R_set_114 : decode I_R_set.2.1 114 = .ok (.putfield 87, 3) := by decide +kernel
theorem d_R_set_117 : decode I_R_set.2.1 117 = .ok (.aload_n 0, 1) := by decide +kernel
theorem d_R_set_118 : decode I_R_set.2.1 118 = .ok (.iload_n 1, 1) := by decide +kernel
theorem d_R_set_119 : decode I_R_set.2.1 119 = .ok (.iconst 2, 1) := by decide +kernel
theorem d_R_set_120 : decode I_R_set.2.1 120 = .ok (.if_icmp .ne 7, 3) := by decide +kernel
theorem d_R_set_123 : decode I_R_set.2.1 123 = .ok (.iload_n 2, 1) := by decide +kernel
theorem d_R_set_124 : decode I_R_set.2.1 124 = .ok (.goto 7, 3) := by decide +kernel
theorem d_R_set_127 : decode I_R_set.2.1 127 = .ok (.aload_n 0, 1) := by decide +kernel
theorem d_R_set_128 : decode I_R_set.2.1 128 = .ok (.getfield 120, 3) := by decide +kernel
theorem d_R_set_131 : decode I_R_set.2.1 131 = .ok (.putfield 120, 3) := by decide +kernel
theorem d_R_set_134 : decode I_R_set.2.1 134 = .ok (.aload_n 0, 1) := by decide +kernel
theorem d_R_set_135 : decode I_R_set.2.1 135 = .ok (.iload_n 1, 1) := by decide +kernel
theorem d_R_set_136 : decode I_R_set.2.1 136 = .ok (.iconst 3, 1) := by decide +kernel
theorem d_R_set_137 : decode I_R_set.2.1 137 = .ok (.if_icmp .ne 7, 3) := by decide +kernel
theorem d_R_set_140 : decode I_R_set.2.1 140 = .ok (.iload_n 2, 1) := by decide +kernel
theorem d_R_set_141 : decode I_R_set.2.1 141 = .ok (.goto 7, 3) := by decide +kernel
theorem d_R_set_144 : decode I_R_set.2.1 144 = .ok (.aload_n 0, 1) := by decide +kernel
theorem d_R_set_145 : decode I_R_set.2.1 145 = .ok (.getfield 123, 3) := by decide +kernel
theorem d_R_set_148 : decode I_R_set.2.1 148 = .ok (.putfield 123, 3) := by decide +kernel
theorem d_R_set_151 : decode I_R_set.2.1 151 = .ok (.aload_n 0, 1) := by decide +kernel
theorem d_R_set_152 : decode I_R_set.2.1 152 = .ok (.iload_n 1, 1) := by decide +kernel
theorem d_R_set_153 : decode I_R_set.2.1 153 = .ok (.iconst 4, 1) := by decide +kernel
theorem d_R_set_154 : decode I_R_set.2.1 154 = .ok (.if_icmp .ne 7, 3) := by decide +kernel
theorem d_R_set_157 : decode I_R_set.2.1 157 = .ok (.iload_n 2, 1) := by decide +kernel
theorem d_R_set_158 : decode I_R_set.2.1 158 = .ok (.goto 7, 3) := by decide +kernel
theorem d_R_set_161 : decode I_R_set.2.1 161 = .ok (.aload_n 0, 1) := by decide +kernel
theorem d_R_set_162 : decode I_R_set.2.1 162 = .ok (.getfield 90, 3) := by decide +kernel
theorem d_R_set_165 : decode I_R_set.2.1 165 = .ok (.putfield 90, 3) := by decide +kernel
theorem d_R_set_168 : decode I_R_set.2.1 168 = .ok (.iload_n 3, 1) := by decide +kernel
theorem d_R_set_169 : decode I_R_set.2.1 169 = .ok (.ireturn, 1) := by decide +kernel
theorem d_R_visit_0 : decode I_R_visit.2.1 0 = .ok (.iload_n 1, 1) := by decide +kernel
theorem d_R_visit_1 : decode I_R_visit.2.1 1 = .ok (.invokestatic 126, 3) := by decide +kernel
theorem d_R_visit_4 : decode I_R_visit.2.1 4 = .ok (.ifCond .eq 17, 3) := by decide +kernel
theorem d_R_visit_7 : decode I_R_visit.2.1 7 = .ok (.iload_n 2, 1) := by decide +kernel
theorem d_R_visit_8 : decode I_R_visit.2.1 8 = .ok (.invokestatic 129, 3) := by decide +kernel
theorem d_R_visit_11 : decode I_R_visit.2.1 11 = .ok (.ifCond .eq 10, 3) := by decide +kernel
theorem d_R_visit_14 : decode I_R_visit.2.1 14 = .ok (.iload_n 3, 1) := by decide +kernel
theorem d_R_visit_15 : decode I_R_visit.2.1 15 = .ok (.invokestatic 116, 3) := by decide +kernel
theorem d_R_visit_18 : decode I_R_visit.2.1 18 = .ok (.ifCond .ne 6, 3) := by decide +kernel
theorem d_R_visit_21 : decode I_R_visit.2.1 21 = .ok (.bipush (-2), 2) := by decide +kernel
theorem d_R_visit_23 : decode I_R_visit.2.1 23 = .ok (.ireturn, 1) := by decide +kernel
theorem d_R_visit_24 : decode I_R_visit.2.1 24 = .ok (.aload_n 0, 1) := by decide +kernel
theorem d_R_visit_25 : decode I_R_visit.2.1 25 = .ok (.getfield 132, 3) := by decide +kernel
theorem d_R_visit_28 : decode I_R_visit.2.1 28 = .ok (.bipush 24, 2) := by decide +kernel
theorem d_R_visit_30 : decode I_R_visit.2.1 30 = .ok (.if_icmp .ne 6, 3) := by decide +kernel
theorem d_R_visit_33 : decode I_R_visit.2.1 33 = .ok (.bipush (-4), 2) := by decide +kernel
theorem d_R_visit_35 : decode I_R_visit.2.1 35 = .ok (.ireturn, 1) := by decide +kernel
theorem d_R_visit_36 : decode I_R_visit.2.1 36 = .ok (.aload_n 0, 1) := by decide +kernel
theorem d_R_visit_37 : decode I_R_visit.2.1 37 = .ok (.getfield 19, 3) := by decide +kernel
theorem d_R_visit_40 : decode I_R_visit.2.1 40 = .ok (.aload_n 0, 1) := by decide +kernel
theorem d_R_visit_41 : decode I_R_visit.2.1 41 = .ok (.getfield 132, 3) := by decide +kernel
theorem d_R_visit_44 : decode I_R_visit.2.1 44 = .ok (.iload_n 1, 1) := by decide +kernel
theorem d_R_visit_45 : decode I_R_visit.2.1 45 = .ok (.iastore, 1) := by decide +kernel
theorem d_R_visit_46 : decode I_R_visit.2.1 46 = .ok (.aload_n 0, 1) := by decide +kernel
theorem d_R_visit_47 : decode I_R_visit.2.1 47 = .ok (.getfield 22, 3) := by decide +kernel
theorem d_R_visit_50 : decode I_R_visit.2.1 50 = .ok (.aload_n 0, 1) := by decide +kernel
theorem d_R_visit_51 : decode I_R_visit.2.1 51 = .ok (.getfield 132, 3) := by decide +kernel
theorem d_R_visit_54 : decode I_R_visit.2.1 54 = .ok (.iload_n 2, 1) := by decide +kernel
theorem d_R_visit_55 : decode I_R_visit.2.1 55 = .ok (.iastore, 1) := by decide +kernel
theorem d_R_visit_56 : decode I_R_visit.2.1 56 = .ok (.aload_n 0, 1) := by decide +kernel
theorem d_R_visit_57 : decode I_R_visit.2.1 57 = .ok (.getfield 25, 3) := by decide +kernel
theorem d_R_visit_60 : decode I_R_visit.2.1 60 = .ok (.aload_n 0, 1) := by decide +kernel
theorem d_R_visit_61 : decode I_R_visit.2.1 61 = .ok (.getfield 132, 3) := by decide +kernel
theorem d_R_visit_64 : decode I_R_visit.2.1 64 = .ok (.iload_n 3, 1) := by decide +kernel
theorem d_R_visit_65 : decode I_R_visit.2.1 65 = .ok (.iastore, 1) := by decide +kernel
theorem d_R_visit_66 : decode I_R_visit.2.1 66 = .ok (.aload_n 0, 1) := by decide +kernel
theorem d_R_visit_67 : decode I_R_visit.2.1 67 = .ok (.dup, 1) := by decide +kernel
theorem d_R_visit_68 : decode I_R_visit.2.1 68 = .ok (.getfield 132, 3) := by decide +kernel
theorem d_R_visit_71 : decode I_R_visit.2.1 71 = .ok (.iconst 1, 1) := by decide +kernel
theorem d_R_visit_72 : decode I_R_visit.2.1 72 = .ok (.iadd, 1) := by decide +kernel
theorem d_R_visit_73 : decode I_R_visit.2.1 73 = .ok (.putfield 132, 3) := by decide +kernel
theorem d_R_visit_76 : decode I_R_visit.2.1 76 = .ok (.aload_n 0, 1) := by decide +kernel
theorem d_R_visit_77 : decode I_R_visit.2.1 77 = .ok (.getfield 132, 3) := by decide +kernel
theorem d_R_visit_80 : decode I_R_visit.2.1 80 = .ok (.ireturn, 1) := by decide +kernel
theorem d_R_back_0 : decode I_R_back.2.1 0 = .ok (.aload_n 0, 1) := by decide +kernel
theorem d_R_back_1 : decode I_R_back.2.1 1 = .ok (.getfield 132, 3) := by decide +kernel
theorem d_R_back_4 : decode I_R_back.2.1 4 = .ok (.ifCond .ne 6, 3) := by decide +kernel
theorem d_R_back_7 : decode I_R_back.2.1 7 = .ok (.bipush (-3), 2) := by decide +kernel
theorem d_R_back_9 : decode I_R_back.2.1 9 = .ok (.ireturn, 1) := by decide +kernel
theorem d_R_back_10 : decode I_R_back.2.1 10 = .ok (.aload_n 0, 1) := by decide +kernel
theorem d_R_back_11 : decode I_R_back.2.1 11 = .ok (.dup, 1) := by decide +kernel
theorem d_R_back_12 : decode I_R_back.2.1 12 = .ok (.getfield 132, 3) := by decide +kernel
theorem d_R_back_15 : decode I_R_back.2.1 15 = .ok (.iconst 1, 1) := by decide +kernel
theorem d_R_back_16 : decode I_R_back.2.1 16 = .ok (.isub, 1) := by decide +kernel
theorem d_R_back_17 : decode I_R_back.2.1 17 = .ok (.putfield 132, 3) := by decide +kernel
theorem d_R_back_20 : decode I_R_back.2.1 20 = .ok (.aload_n 0, 1) := by decide +kernel
theorem d_R_back_21 : decode I_R_back.2.1 21 = .ok (.getfield 132, 3) := by decide +kernel
theorem d_R_back_24 : decode I_R_back.2.1 24 = .ok (.ireturn, 1) := by decide +kernel
theorem d_R_read_0 : decode I_R_read.2.1 0 = .ok (.iload_n 1, 1) := by decide +kernel
theorem d_R_read_1 : decode I_R_read.2.1 1 = .ok (.invokestatic 135, 3) := by decide +kernel
theorem d_R_read_4 : decode I_R_read.2.1 4 = .ok (.ifCond .ne 6, 3) := by decide +kernel
theorem d_R_read_7 : decode I_R_read.2.1 7 = .ok (.bipush (-2), 2) := by decide +kernel
theorem d_R_read_9 : decode I_R_read.2.1 9 = .ok (.ireturn, 1) := by decide +kernel
theorem d_R_read_10 : decode I_R_read.2.1 10 = .ok (.aload_n 0, 1) := by decide +kernel
theorem d_R_read_11 : decode I_R_read.2.1 11 = .ok (.getfield 68, 3) := by decide +kernel
theorem d_R_read_14 : decode I_R_read.2.1 14 = .ok (.iload_n 1, 1) := by decide +kernel
theorem d_R_read_15 : decode I_R_read.2.1 15 = .ok (.baload, 1) := by decide +kernel
theorem d_R_read_16 : decode I_R_read.2.1 16 = .ok (.ifCond .ne 9, 3) := by decide +kernel
theorem d_R_read_19 : decode I_R_read.2.1 19 = .ok (.aload_n 0, 1) := by decide +kernel
theorem d_R_read_20 : decode I_R_read.2.1 20 = .ok (.iconst 1, 1) := by decide +kernel
theorem d_R_read_21 : decode I_R_read.2.1 21 = .ok (.invokevirtual 138, 3) := by decide +kernel
theorem d_R_read_24 : decode I_R_read.2.1 24 = .ok (.ireturn, 1) := by decide +kernel
theorem d_R_read_25 : decode I_R_read.2.1 25 = .ok (.iconst 0, 1) := by decide +kernel
theorem d_R_read_26 : decode I_R_read.2.1 26 = .ok (.istore_n 2, 1) := by decide +kernel
theorem d_R_read_27 : decode I_R_read.2.1 27 = .ok (.iconst 3, 1) := by decide +kernel
theorem d_R_read_28 : decode I_R_read.2.1 28 = .ok (.iload_n 2, 1) := by decide +kernel
theorem d_R_read_29 : decode I_R_read.2.1 29 = .ok (.imul, 1) := by decide +kernel
theorem d_R_read_30 : decode I_R_read.2.1 30 = .ok (.iconst 2, 1) := by decide +kernel
theorem d_R_read_31 : decode I_R_read.2.1 31 = .ok (.iadd, 1) := by decide +kernel
theorem d_R_read_32 : decode I_R_read.2.1 32 = .ok (.aload_n 0, 1) := by decide +kernel
theorem d_R_read_33 : decode I_R_read.2.1 33 = .ok (.getfield 74, 3) := by decide +kernel
theorem d_R_read_36 : decode I_R_read.2.1 36 = .ok (.iload_n 1, 1) := by decide +kernel
theorem d_R_read_37 : decode I_R_read.2.1 37 = .ok (.iaload, 1) := by decide +kernel
theorem d_R_read_38 : decode I_R_read.2.1 38 = .ok (.if_icmp .ge 59, 3) := by decide +kernel
theorem d_R_read_41 : decode I_R_read.2.1 41 = .ok (.aload_n 0, 1) := by decide +kernel
theorem d_R_read_42 : decode I_R_read.2.1 42 = .ok (.aload_n 0, 1) := by decide +kernel
theorem d_R_read_43 : decode I_R_read.2.1 43 = .ok (.getfield 77, 3) := by decide +kernel
theorem d_R_read_46 : decode I_R_read.2.1 46 = .ok (.bipush 48, 2) := by decide +kernel
theorem d_R_read_48 : decode I_R_read.2.1 48 = .ok (.iload_n 1, 1) := by decide +kernel
theorem d_R_read_49 : decode I_R_read.2.1 49 = .ok (.imul, 1) := by decide +kernel
theorem d_R_read_50 : decode I_R_read.2.1 50 = .ok (.iconst 3, 1) := by decide +kernel
theorem d_R_read_51 : decode I_R_read.2.1 51 = .ok (.iload_n 2, 1) := by decide +kernel
theorem d_R_read_52 : decode I_R_read.2.1 52 = .ok (.imul, 1) := by decide +kernel
theorem d_R_read_53 : decode I_R_read.2.1 53 = .ok (.iadd, 1) := by decide +kernel
theorem d_R_read_54 : decode I_R_read.2.1 54 = .ok (.iaload, 1) := by decide +kernel
theorem d_R_read_55 : decode I_R_read.2.1 55 = .ok (.aload_n 0, 1) := by decide +kernel
theorem d_R_read_56 : decode I_R_read.2.1 56 = .ok (.getfield 77, 3) := by decide +kernel
theorem d_R_read_59 : decode I_R_read.2.1 59 = .ok (.bipush 48, 2) := by decide +kernel
theorem d_R_read_61 : decode I_R_read.2.1 61 = .ok (.iload_n 1, 1) := by decide +kernel
theorem d_R_read_62 : decode I_R_read.2.1 62 = .ok (.imul, 1) := by decide +kernel
theorem d_R_read_63 : decode I_R_read.2.1 63 = .ok (.iconst 3, 1) := by decide +kernel
theorem d_R_read_64 : decode I_R_read.2.1 64 = .ok (.iload_n 2, 1) := by decide +kernel
theorem d_R_read_65 : decode I_R_read.2.1 65 = .ok (.imul, 1) := by decide +kernel
theorem d_R_read_66 : decode I_R_read.2.1 66 = .ok (.iadd, 1) := by decide +kernel
theorem d_R_read_67 : decode I_R_read.2.1 67 = .ok (.iconst 1, 1) := by decide +kernel
theorem d_R_read_68 : decode I_R_read.2.1 68 = .ok (.iadd, 1) := by decide +kernel
theorem d_R_read_69 : decode I_R_read.2.1 69 = .ok (.iaload, 1) := by decide +kernel
theorem d_R_read_70 : decode I_R_read.2.1 70 = .ok (.aload_n 0, 1) := by decide +kernel
theorem d_R_read_71 : decode I_R_read.2.1 71 = .ok (.getfield 77, 3) := by decide +kernel
theorem d_R_read_74 : decode I_R_read.2.1 74 = .ok (.bipush 48, 2) := by decide +kernel
theorem d_R_read_76 : decode I_R_read.2.1 76 = .ok (.iload_n 1, 1) := by decide +kernel
theorem d_R_read_77 : decode I_R_read.2.1 77 = .ok (.imul, 1) := by decide +kernel
theorem d_R_read_78 : decode I_R_read.2.1 78 = .ok (.iconst 3, 1) := by decide +kernel
theorem d_R_read_79 : decode I_R_read.2.1 79 = .ok (.iload_n 2, 1) := by decide +kernel
theorem d_R_read_80 : decode I_R_read.2.1 80 = .ok (.imul, 1) := by decide +kernel
theorem d_R_read_81 : decode I_R_read.2.1 81 = .ok (.iadd, 1) := by decide +kernel
theorem d_R_read_82 : decode I_R_read.2.1 82 = .ok (.iconst 2, 1) := by decide +kernel
theorem d_R_read_83 : decode I_R_read.2.1 83 = .ok (.iadd, 1) := by decide +kernel
theorem d_R_read_84 : decode I_R_read.2.1 84 = .ok (.iaload, 1) := by decide +kernel
theorem d_R_read_85 : decode I_R_read.2.1 85 = .ok (.invokevirtual 142, 3) := by decide +kernel
theorem d_R_read_88 : decode I_R_read.2.1 88 = .ok (.ifCond .le 9, 3) := by decide +kernel
theorem d_R_read_91 : decode I_R_read.2.1 91 = .ok (.iinc 2 1, 3) := by decide +kernel
theorem d_R_read_94 : decode I_R_read.2.1 94 = .ok (.goto (-67), 3) := by decide +kernel
theorem d_R_read_97 : decode I_R_read.2.1 97 = .ok (.iload_n 2, 1) := by decide +kernel
theorem d_R_read_98 : decode I_R_read.2.1 98 = .ok (.ireturn, 1) := by decide +kernel
theorem d_R_asTold_0 : decode I_R_asTold.2.1 0 = .ok (.aload_n 0, 1) := by decide +kernel
theorem d_R_asTold_1 : decode I_R_asTold.2.1 1 = .ok (.iconst 0, 1) := by decide +kernel
theorem d_R_asTold_2 : decode I_R_asTold.2.1 2 = .ok (.putfield 146, 3) := by decide +kernel
theorem d_R_asTold_5 : decode I_R_asTold.2.1 5 = .ok (.aload_n 0, 1) := by decide +kernel
theorem d_R_asTold_6 : decode I_R_asTold.2.1 6 = .ok (.aload_n 0, 1) := by decide +kernel
theorem d_R_asTold_7 : decode I_R_asTold.2.1 7 = .ok (.getfield 123, 3) := by decide +kernel
theorem d_R_asTold_10 : decode I_R_asTold.2.1 10 = .ok (.putfield 149, 3) := by decide +kernel
theorem d_R_asTold_13 : decode I_R_asTold.2.1 13 = .ok (.aload_n 0, 1) := by decide +kernel
theorem d_R_asTold_14 : decode I_R_asTold.2.1 14 = .ok (.iconst (-1), 1) := by decide +kernel
theorem d_R_asTold_15 : decode I_R_asTold.2.1 15 = .ok (.putfield 152, 3) := by decide +kernel
theorem d_R_asTold_18 : decode I_R_asTold.2.1 18 = .ok (.return_, 1) := by decide +kernel
theorem d_R_adds_0 : decode I_R_adds.2.1 0 = .ok (.aload_n 0, 1) := by decide +kernel
theorem d_R_adds_1 : decode I_R_adds.2.1 1 = .ok (.getfield 28, 3) := by decide +kernel
theorem d_R_adds_4 : decode I_R_adds.2.1 4 = .ok (.aload_n 0, 1) := by decide +kernel
theorem d_R_adds_5 : decode I_R_adds.2.1 5 = .ok (.getfield 146, 3) := by decide +kernel
theorem d_R_adds_8 : decode I_R_adds.2.1 8 = .ok (.iload_n 1, 1) := by decide +kernel
theorem d_R_adds_9 : decode I_R_adds.2.1 9 = .ok (.iastore, 1) := by decide +kernel
theorem d_R_adds_10 : decode I_R_adds.2.1 10 = .ok (.aload_n 0, 1) := by decide +kernel
theorem d_R_adds_11 : decode I_R_adds.2.1 11 = .ok (.getfield 31, 3) := by decide +kernel
theorem d_R_adds_14 : decode I_R_adds.2.1 14 = .ok (.aload_n 0, 1) := by decide +kernel
theorem d_R_adds_15 : decode I_R_adds.2.1 15 = .ok (.getfield 146, 3) := by decide +kernel
theorem d_R_adds_18 : decode I_R_adds.2.1 18 = .ok (.iload_n 2, 1) := by decide +kernel
theorem d_R_adds_19 : decode I_R_adds.2.1 19 = .ok (.iastore, 1) := by decide +kernel
theorem d_R_adds_20 : decode I_R_adds.2.1 20 = .ok (.aload_n 0, 1) := by decide +kernel
theorem d_R_adds_21 : decode I_R_adds.2.1 21 = .ok (.getfield 34, 3) := by decide +kernel
theorem d_R_adds_24 : decode I_R_adds.2.1 24 = .ok (.aload_n 0, 1) := by decide +kernel
theorem d_R_adds_25 : decode I_R_adds.2.1 25 = .ok (.getfield 146, 3) := by decide +kernel
theorem d_R_adds_28 : decode I_R_adds.2.1 28 = .ok (.iload_n 3, 1) := by decide +kernel
theorem d_R_adds_29 : decode I_R_adds.2.1 29 = .ok (.iastore, 1) := by decide +kernel
theorem d_R_adds_30 : decode I_R_adds.2.1 30 = .ok (.aload_n 0, 1) := by decide +kernel
theorem d_R_adds_31 : decode I_R_adds.2.1 31 = .ok (.dup, 1) := by decide +kernel
theorem d_R_adds_32 : decode I_R_adds.2.1 32 = .ok (.getfield 146, 3) := by decide +kernel
theorem d_R_adds_35 : decode I_R_adds.2.1 35 = .ok (.iconst 1, 1) := by decide +kernel
theorem d_R_adds_36 : decode I_R_adds.2.1 36 = .ok (.iadd, 1) := by decide +kernel
theorem d_R_adds_37 : decode I_R_adds.2.1 37 = .ok (.putfield 146, 3) := by decide +kernel
theorem d_R_adds_40 : decode I_R_adds.2.1 40 = .ok (.return_, 1) := by decide +kernel
theorem d_R_comes_0 : decode I_R_comes.2.1 0 = .ok (.iload_n 3, 1) := by decide +kernel
theorem d_R_comes_1 : decode I_R_comes.2.1 1 = .ok (.aload_n 0, 1) := by decide +kernel
theorem d_R_comes_2 : decode I_R_comes.2.1 2 = .ok (.getfield 102, 3) := by decide +kernel
theorem d_R_comes_5 : decode I_R_comes.2.1 5 = .ok (.if_icmp .ge 14, 3) := by decide +kernel
theorem d_R_comes_8 : decode I_R_comes.2.1 8 = .ok (.aload_n 0, 1) := by decide +kernel
theorem d_R_comes_9 : decode I_R_comes.2.1 9 = .ok (.getfield 149, 3) := by decide +kernel
theorem d_R_comes_12 : decode I_R_comes.2.1 12 = .ok (.iload_n 2, 1) := by decide +kernel
theorem d_R_comes_13 : decode I_R_comes.2.1 13 = .ok (.invokestatic 155, 3) := by decide +kernel
theorem d_R_comes_16 : decode I_R_comes.2.1 16 = .ok (.ifCond .eq 4, 3) := by decide +kernel
theorem d_R_comes_19 : decode I_R_comes.2.1 19 = .ok (.return_, 1) := by decide +kernel
theorem d_R_comes_20 : decode I_R_comes.2.1 20 = .ok (.aload_n 0, 1) := by decide +kernel
theorem d_R_comes_21 : decode I_R_comes.2.1 21 = .ok (.getfield 16, 3) := by decide +kernel
theorem d_R_comes_24 : decode I_R_comes.2.1 24 = .ok (.iconst 3, 1) := by decide +kernel
theorem d_R_comes_25 : decode I_R_comes.2.1 25 = .ok (.iload_n 1, 1) := by decide +kernel
theorem d_R_comes_26 : decode I_R_comes.2.1 26 = .ok (.imul, 1) := by decide +kernel
theorem d_R_comes_27 : decode I_R_comes.2.1 27 = .ok (.iload 4, 2) := by decide +kernel
theorem d_R_comes_29 : decode I_R_comes.2.1 29 = .ok (.iadd, 1) := by decide +kernel
theorem d_R_comes_30 : decode I_R_comes.2.1 30 = .ok (.iaload, 1) := by decide +kernel
theorem d_R_comes_31 : decode I_R_comes.2.1 31 = .ok (.aload_n 0, 1) := by decide +kernel
theorem d_R_comes_32 : decode I_R_comes.2.1 32 = .ok (.getfield 13, 3) := by decide +kernel
theorem d_R_comes_35 : decode I_R_comes.2.1 35 = .ok (.iconst 3, 1) := by decide +kernel
theorem d_R_comes_36 : decode I_R_comes.2.1 36 = .ok (.iload_n 3, 1) := by decide +kernel
theorem d_R_comes_37 : decode I_R_comes.2.1 37 = .ok (.imul, 1) := by decide +kernel
theorem d_R_comes_38 : decode I_R_comes.2.1 38 = .ok (.iload 4, 2) := by decide +kernel
theorem d_R_comes_40 : decode I_R_comes.2.1 40 = .ok (.iadd, 1) := by decide +kernel
theorem d_R_comes_41 : decode I_R_comes.2.1 41 = .ok (.iaload, 1) := by decide +kernel
theorem d_R_comes_42 : decode I_R_comes.2.1 42 = .ok (.imul, 1) := by decide +kernel
theorem d_R_comes_43 : decode I_R_comes.2.1 43 = .ok (.istore 5, 2) := by decide +kernel
theorem d_R_comes_45 : decode I_R_comes.2.1 45 = .ok (.iload 4, 2) := by decide +kernel
theorem d_R_comes_47 : decode I_R_comes.2.1 47 = .ok (.ifCond .ne 40, 3) := by decide +kernel
theorem d_R_comes_50 : decode I_R_comes.2.1 50 = .ok (.aload_n 0, 1) := by decide +kernel
theorem d_R_comes_51 : decode I_R_comes.2.1 51 = .ok (.getfield 159, 3) := by decide +kernel
theorem d_R_comes_54 : decode I_R_comes.2.1 54 = .ok (.iconst (-1), 1) := by decide +kernel
theorem d_R_comes_55 : decode I_R_comes.2.1 55 = .ok (.if_icmp .eq 16, 3) := by decide +kernel
theorem d_R_comes_58 : decode I_R_comes.2.1 58 = .ok (.iload_n 2, 1) := by decide +kernel
theorem d_R_comes_59 : decode I_R_comes.2.1 59 = .ok (.aload_n 0, 1) := by decide +kernel
theorem d_R_comes_60 : decode I_R_comes.2.1 60 = .ok (.getfield 159, 3) := by decide +kernel
theorem d_R_comes_63 : decode I_R_comes.2.1 63 = .ok (.isub, 1) := by decide +kernel
theorem d_R_comes_64 : decode I_R_comes.2.1 64 = .ok (.aload_n 0, 1) := by decide +kernel
theorem d_R_comes_65 : decode I_R_comes.2.1 65 = .ok (.getfield 87, 3) := by decide +kernel
theorem d_R_comes_68 : decode I_R_comes.2.1 68 = .ok (.if_icmp .le 10, 3) := by decide +kernel
theorem d_R_comes_71 : decode I_R_comes.2.1 71 = .ok (.iconst 2, 1) := by decide +kernel
theorem d_R_comes_72 : decode I_R_comes.2.1 72 = .ok (.iload 5, 2) := by decide +kernel
theorem d_R_comes_74 : decode I_R_comes.2.1 74 = .ok (.imul, 1) := by decide +kernel
theorem d_R_comes_75 : decode I_R_comes.2.1 75 = .ok (.goto 5, 3) := by decide +kernel
theorem d_R_comes_78 : decode I_R_comes.2.1 78 = .ok (.iload 5, 2) := by decide +kernel
theorem d_R_comes_80 : decode I_R_comes.2.1 80 = .ok (.istore 5, 2) := by decide +kernel
theorem d_R_comes_82 : decode I_R_comes.2.1 82 = .ok (.aload_n 0, 1) := by decide +kernel
theorem d_R_comes_83 : decode I_R_comes.2.1 83 = .ok (.iload_n 2, 1) := by decide +kernel
theorem d_R_comes_84 : decode I_R_comes.2.1 84 = .ok (.putfield 159, 3) := by decide +kernel
theorem d_R_comes_87 : decode I_R_comes.2.1 87 = .ok (.iload 5, 2) := by decide +kernel
theorem d_R_comes_89 : decode I_R_comes.2.1 89 = .ok (.aload_n 0, 1) := by decide +kernel
theorem d_R_comes_90 : decode I_R_comes.2.1 90 = .ok (.getfield 40, 3) := by decide +kernel
theorem d_R_comes_93 : decode I_R_comes.2.1 93 = .ok (.iload_n 3, 1) := by decide +kernel
theorem d_R_comes_94 : decode I_R_comes.2.1 94 = .ok (.iaload, 1) := by decide +kernel
theorem d_R_comes_95 : decode I_R_comes.2.1 95 = .ok (.iload 4, 2) := by decide +kernel
theorem d_R_comes_97 : decode I_R_comes.2.1 97 = .ok (.if_icmp .ne 10, 3) := by decide +kernel
theorem d_R_comes_100 : decode I_R_comes.2.1 100 = .ok (.aload_n 0, 1) := by decide +kernel
theorem d_R_comes_101 : decode I_R_comes.2.1 101 = .ok (.getfield 83, 3) := by decide +kernel
theorem d_R_comes_104 : decode I_R_comes.2.1 104 = .ok (.goto 4, 3) := by decide +kernel
theorem d_R_comes_107 : decode I_R_comes.2.1 107 = .ok (.iconst 0, 1) := by decide +kernel
theorem d_R_comes_108 : decode I_R_comes.2.1 108 = .ok (.isub, 1) := by decide +kernel
theorem d_R_comes_109 : decode I_R_comes.2.1 109 = .ok (.istore 5, 2) := by decide +kernel
theorem d_R_comes_111 : decode I_R_comes.2.1 111 = .ok (.aload_n 0, 1) := by decide +kernel
theorem d_R_comes_112 : decode I_R_comes.2.1 112 = .ok (.getfield 37, 3) := by decide +kernel
theorem d_R_comes_115 : decode I_R_comes.2.1 115 = .ok (.iload_n 3, 1) := by decide +kernel
theorem d_R_comes_116 : decode I_R_comes.2.1 116 = .ok (.dup2, 1) := by decide +kernel
theorem d_R_comes_117 : decode I_R_comes.2.1 117 = .ok (.iaload, 1) := by decide +kernel
theorem d_R_comes_118 : decode I_R_comes.2.1 118 = .ok (.iload 5, 2) := by decide +kernel
theorem d_R_comes_120 : decode I_R_comes.2.1 120 = .ok (.ifCond .le 8, 3) := by decide +kernel
theorem d_R_comes_123 : decode I_R_comes.2.1 123 = .ok (.iload 5, 2) := by decide +kernel
theorem d_R_comes_125 : decode I_R_comes.2.1 125 = .ok (.goto 4, 3) := by decide +kernel
theorem d_R_comes_128 : decode I_R_comes.2.1 128 = .ok (.iconst 0, 1) := by decide +kernel
theorem d_R_comes_129 : decode I_R_comes.2.1 129 = .ok (.iadd, 1) := by decide +kernel
theorem d_R_comes_130 : decode I_R_comes.2.1 130 = .ok (.iastore, 1) := by decide +kernel
theorem d_R_comes_131 : decode I_R_comes.2.1 131 = .ok (.aload_n 0, 1) := by decide +kernel
theorem d_R_comes_132 : decode I_R_comes.2.1 132 = .ok (.getfield 40, 3) := by decide +kernel
theorem d_R_comes_135 : decode I_R_comes.2.1 135 = .ok (.iload_n 3, 1) := by decide +kernel
theorem d_R_comes_136 : decode I_R_comes.2.1 136 = .ok (.iload 4, 2) := by decide +kernel
theorem d_R_comes_138 : decode I_R_comes.2.1 138 = .ok (.iastore, 1) := by decide +kernel
theorem d_R_comes_139 : decode I_R_comes.2.1 139 = .ok (.aload_n 0, 1) := by decide +kernel
theorem d_R_comes_140 : decode I_R_comes.2.1 140 = .ok (.dup, 1) := by decide +kernel
theorem d_R_comes_141 : decode I_R_comes.2.1 141 = .ok (.getfield 162, 3) := by decide +kernel
theorem d_R_comes_144 : decode I_R_comes.2.1 144 = .ok (.iconst 1, 1) := by decide +kernel
theorem d_R_comes_145 : decode I_R_comes.2.1 145 = .ok (.iload_n 3, 1) := by decide +kernel
theorem d_R_comes_146 : decode I_R_comes.2.1 146 = .ok (.ishl, 1) := by decide +kernel
theorem d_R_comes_147 : decode I_R_comes.2.1 147 = .ok (.ior, 1) := by decide +kernel
theorem d_R_comes_148 : decode I_R_comes.2.1 148 = .ok (.putfield 162, 3) := by decide +kernel
theorem d_R_comes_151 : decode I_R_comes.2.1 151 = .ok (.return_, 1) := by decide +kernel
theorem d_R_finds_0 : decode I_R_finds.2.1 0 = .ok (.iconst (-1), 1) := by decide +kernel
theorem d_R_finds_1 : decode I_R_finds.2.1 1 = .ok (.istore_n 2, 1) := by decide +kernel
theorem d_R_finds_2 : decode I_R_finds.2.1 2 = .ok (.iconst 0, 1) := by decide +kernel
theorem d_R_finds_3 : decode I_R_finds.2.1 3 = .ok (.istore_n 3, 1) := by decide +kernel
theorem d_R_finds_4 : decode I_R_finds.2.1 4 = .ok (.iconst 0, 1) := by decide +kernel
theorem d_R_finds_5 : decode I_R_finds.2.1 5 = .ok (.istore 4, 2) := by decide +kernel
theorem d_R_finds_7 : decode I_R_finds.2.1 7 = .ok (.iload 4, 2) := by decide +kernel
theorem d_R_finds_9 : decode I_R_finds.2.1 9 = .ok (.aload_n 0, 1) := by decide +kernel
theorem d_R_finds_10 : decode I_R_finds.2.1 10 = .ok (.getfield 102, 3) := by decide +kernel
theorem d_R_finds_13 : decode I_R_finds.2.1 13 = .ok (.if_icmp .ge 50, 3) := by decide +kernel
theorem d_R_finds_16 : decode I_R_finds.2.1 16 = .ok (.aload_n 0, 1) := by decide +kernel
theorem d_R_finds_17 : decode I_R_finds.2.1 17 = .ok (.getfield 37, 3) := by decide +kernel
theorem d_R_finds_20 : decode I_R_finds.2.1 20 = .ok (.iload 4, 2) := by decide +kernel
theorem d_R_finds_22 : decode I_R_finds.2.1 22 = .ok (.iaload, 1) := by decide +kernel
theorem d_R_finds_23 : decode I_R_finds.2.1 23 = .ok (.iload_n 3, 1) := by decide +kernel
theorem d_R_finds_24 : decode I_R_finds.2.1 24 = .ok (.if_icmp .le 8, 3) := by decide +kernel
theorem d_R_finds_27 : decode I_R_finds.2.1 27 = .ok (.iload 4, 2) := by decide +kernel
theorem d_R_finds_29 : decode I_R_finds.2.1 29 = .ok (.goto 4, 3) := by decide +kernel
theorem d_R_finds_32 : decode I_R_finds.2.1 32 = .ok (.iload_n 2, 1) := by decide +kernel
theorem d_R_finds_33 : decode I_R_finds.2.1 33 = .ok (.istore_n 2, 1) := by decide +kernel
theorem d_R_finds_34 : decode I_R_finds.2.1 34 = .ok (.aload_n 0, 1) := by decide +kernel
theorem d_R_finds_35 : decode I_R_finds.2.1 35 = .ok (.getfield 37, 3) := by decide +kernel
theorem d_R_finds_38 : decode I_R_finds.2.1 38 = .ok (.iload 4, 2) := by decide +kernel
theorem d_R_finds_40 : decode I_R_finds.2.1 40 = .ok (.iaload, 1) := by decide +kernel
theorem d_R_finds_41 : decode I_R_finds.2.1 41 = .ok (.iload_n 3, 1) := by decide +kernel
theorem d_R_finds_42 : decode I_R_finds.2.1 42 = .ok (.if_icmp .le 13, 3) := by decide +kernel
theorem d_R_finds_45 : decode I_R_finds.2.1 45 = .ok (.aload_n 0, 1) := by decide +kernel
theorem d_R_finds_46 : decode I_R_finds.2.1 46 = .ok (.getfield 37, 3) := by decide +kernel
theorem d_R_finds_49 : decode I_R_finds.2.1 49 = .ok (.iload 4, 2) := by decide +kernel
theorem d_R_finds_51 : decode I_R_finds.2.1 51 = .ok (.iaload, 1) := by decide +kernel
theorem d_R_finds_52 : decode I_R_finds.2.1 52 = .ok (.goto 4, 3) := by decide +kernel
theorem d_R_finds_55 : decode I_R_finds.2.1 55 = .ok (.iload_n 3, 1) := by decide +kernel
theorem d_R_finds_56 : decode I_R_finds.2.1 56 = .ok (.istore_n 3, 1) := by decide +kernel
theorem d_R_finds_57 : decode I_R_finds.2.1 57 = .ok (.iinc 4 1, 3) := by decide +kernel
theorem d_R_finds_60 : decode I_R_finds.2.1 60 = .ok (.goto (-53), 3) := by decide +kernel
theorem d_R_finds_63 : decode I_R_finds.2.1 63 = .ok (.iload_n 2, 1) := by decide +kernel
theorem d_R_finds_64 : decode I_R_finds.2.1 64 = .ok (.iconst (-1), 1) := by decide +kernel
theorem d_R_finds_65 : decode I_R_finds.2.1 65 = .ok (.if_icmp .eq 22, 3) := by decide +kernel
theorem d_R_finds_68 : decode I_R_finds.2.1 68 = .ok (.iload_n 1, 1) := by decide +kernel
theorem d_R_finds_69 : decode I_R_finds.2.1 69 = .ok (.iconst (-1), 1) := by decide +kernel
theorem d_R_finds_70 : decode I_R_finds.2.1 70 = .ok (.if_icmp .eq 17, 3) := by decide +kernel
theorem d_R_finds_73 : decode I_R_finds.2.1 73 = .ok (.aload_n 0, 1) := by decide +kernel
theorem d_R_finds_74 : decode I_R_finds.2.1 74 = .ok (.getfield 37, 3) := by decide +kernel
theorem d_R_finds_77 : decode I_R_finds.2.1 77 = .ok (.iload_n 1, 1) := by decide +kernel
theorem d_R_finds_78 : decode I_R_finds.2.1 78 = .ok (.iaload, 1) := by decide +kernel
theorem d_R_finds_79 : decode I_R_finds.2.1 79 = .ok (.iload_n 3, 1) := by decide +kernel
theorem d_R_finds_80 : decode I_R_finds.2.1 80 = .ok (.if_icmp .ne 7, 3) := by decide +kernel
theorem d_R_finds_83 : decode I_R_finds.2.1 83 = .ok (.iload_n 1, 1) := by decide +kernel
theorem d_R_finds_84 : decode I_R_finds.2.1 84 = .ok (.goto 4, 3) := by decide +kernel
theorem d_R_finds_87 : decode I_R_finds.2.1 87 = .ok (.iload_n 2, 1) := by decide +kernel
theorem d_R_finds_88 : decode I_R_finds.2.1 88 = .ok (.ireturn, 1) := by decide +kernel
theorem d_R_runs_0 : decode I_R_runs.2.1 0 = .ok (.iconst 0, 1) := by decide +kernel
theorem d_R_runs_1 : decode I_R_runs.2.1 1 = .ok (.istore_n 3, 1) := by decide +kernel
theorem d_R_runs_2 : decode I_R_runs.2.1 2 = .ok (.iload_n 3, 1) := by decide +kernel
theorem d_R_runs_3 : decode I_R_runs.2.1 3 = .ok (.bipush 6, 2) := by decide +kernel
theorem d_R_runs_5 : decode I_R_runs.2.1 5 = .ok (.if_icmp .ge 23, 3) := by decide +kernel
theorem d_R_runs_8 : decode I_R_runs.2.1 8 = .ok (.aload_n 0, 1) := by decide +kernel
theorem d_R_runs_9 : decode I_R_runs.2.1 9 = .ok (.getfield 37, 3) := by decide +kernel
theorem d_R_runs_12 : decode I_R_runs.2.1 12 = .ok (.iload_n 3, 1) := by decide +kernel
theorem d_R_runs_13 : decode I_R_runs.2.1 13 = .ok (.iconst 0, 1) := by decide +kernel
theorem d_R_runs_14 : decode I_R_runs.2.1 14 = .ok (.iastore, 1) := by decide +kernel
theorem d_R_runs_15 : decode I_R_runs.2.1 15 = .ok (.aload_n 0, 1) := by decide +kernel
theorem d_R_runs_16 : decode I_R_runs.2.1 16 = .ok (.getfield 40, 3) := by decide +kernel
theorem d_R_runs_19 : decode I_R_runs.2.1 19 = .ok (.iload_n 3, 1) := by decide +kernel
theorem d_R_runs_20 : decode I_R_runs.2.1 20 = .ok (.iconst (-1), 1) := by decide +kernel
theorem d_R_runs_21 : decode I_R_runs.2.1 21 = .ok (.iastore, 1) := by decide +kernel
theorem d_R_runs_22 : decode I_R_runs.2.1 22 = .ok (.iinc 3 1, 3) := by decide +kernel
theorem d_R_runs_25 : decode I_R_runs.2.1 25 = .ok (.goto (-23), 3) := by decide +kernel
theorem d_R_runs_28 : decode I_R_runs.2.1 28 = .ok (.aload_n 0, 1) := by decide +kernel
theorem d_R_runs_29 : decode I_R_runs.2.1 29 = .ok (.iconst (-1), 1) := by decide +kernel
theorem d_R_runs_30 : decode I_R_runs.2.1 30 = .ok (.putfield 159, 3) := by decide +kernel
theorem d_R_runs_33 : decode I_R_runs.2.1 33 = .ok (.iconst (-1), 1) := by decide +kernel
theorem d_R_runs_34 : decode I_R_runs.2.1 34 = .ok (.istore_n 3, 1) := by decide +kernel
theorem d_R_runs_35 : decode I_R_runs.2.1 35 = .ok (.iconst 0, 1) := by decide +kernel
theorem d_R_runs_36 : decode I_R_runs.2.1 36 = .ok (.istore 4, 2) := by decide +kernel
theorem d_R_runs_38 : decode I_R_runs.2.1 38 = .ok (.iload 4, 2) := by decide +kernel
theorem d_R_runs_40 : decode I_R_runs.2.1 40 = .ok (.iload_n 2, 1) := by decide +kernel
theorem d_R_runs_41 : decode I_R_runs.2.1 41 = .ok (.if_icmp .gt 235, 3) := by decide +kernel
theorem d_R_runs_44 : decode I_R_runs.2.1 44 = .ok (.aload_n 0, 1) := by decide +kernel
theorem d_R_runs_45 : decode I_R_runs.2.1 45 = .ok (.iconst 0, 1) := by decide +kernel
theorem d_R_runs_46 : decode I_R_runs.2.1 46 = .ok (.putfield 162, 3) := by decide +kernel
theorem d_R_runs_49 : decode I_R_runs.2.1 49 = .ok (.iconst 0, 1) := by decide +kernel
theorem d_R_runs_50 : decode I_R_runs.2.1 50 = .ok (.istore 5, 2) := by decide +kernel
theorem d_R_runs_52 : decode I_R_runs.2.1 52 = .ok (.iload 5, 2) := by decide +kernel
theorem d_R_runs_54 : decode I_R_runs.2.1 54 = .ok (.aload_n 0, 1) := by decide +kernel
theorem d_R_runs_55 : decode I_R_runs.2.1 55 = .ok (.getfield 132, 3) := by decide +kernel
theorem d_R_runs_58 : decode I_R_runs.2.1 58 = .ok (.if_icmp .ge 42, 3) := by decide +kernel
theorem d_R_runs_61 : decode I_R_runs.2.1 61 = .ok (.aload_n 0, 1) := by decide +kernel
theorem d_R_runs_62 : decode I_R_runs.2.1 62 = .ok (.getfield 19, 3) := by decide +kernel
theorem d_R_runs_65 : decode I_R_runs.2.1 65 = .ok (.iload 5, 2) := by decide +kernel
theorem d_R_runs_67 : decode I_R_runs.2.1 67 = .ok (.iaload, 1) := by decide +kernel
theorem d_R_runs_68 : decode I_R_runs.2.1 68 = .ok (.iload 4, 2) := by decide +kernel
theorem d_R_runs_70 : decode I_R_runs.2.1 70 = .ok (.if_icmp .ne 24, 3) := by decide +kernel
theorem d_R_runs_73 : decode I_R_runs.2.1 73 = .ok (.aload_n 0, 1) := by decide +kernel
theorem d_R_runs_74 : decode I_R_runs.2.1 74 = .ok (.iload_n 1, 1) := by decide +kernel
theorem d_R_runs_75 : decode I_R_runs.2.1 75 = .ok (.iload 4, 2) := by decide +kernel
theorem d_R_runs_77 : decode I_R_runs.2.1 77 = .ok (.aload_n 0, 1) := by decide +kernel
theorem d_R_runs_78 : decode I_R_runs.2.1 78 = .ok (.getfield 22, 3) := by decide +kernel
theorem d_R_runs_81 : decode I_R_runs.2.1 81 = .ok (.iload 5, 2) := by decide +kernel
theorem d_R_runs_83 : decode I_R_runs.2.1 83 = .ok (.iaload, 1) := by decide +kernel
theorem d_R_runs_84 : decode I_R_runs.2.1 84 = .ok (.aload_n 0, 1) := by decide +kernel
theorem d_R_runs_85 : decode I_R_runs.2.1 85 = .ok (.getfield 25, 3) := by decide +kernel
theorem d_R_runs_88 : decode I_R_runs.2.1 88 = .ok (.iload 5, 2) := by decide +kernel
theorem d_R_runs_90 : decode I_R_runs.2.1 90 = .ok (.iaload, 1) := by decide +kernel
theorem d_R_runs_91 : decode I_R_runs.2.1 91 = .ok (.invokevirtual 165, 3) := by decide +kernel
theorem d_R_runs_94 : decode I_R_runs.2.1 94 = .ok (.iinc 5 1, 3) := by decide +kernel
theorem d_R_runs_97 : decode I_R_runs.2.1 97 = .ok (.goto (-45), 3) := by decide +kernel
theorem d_R_runs_100 : decode I_R_runs.2.1 100 = .ok (.iconst 0, 1) := by decide +kernel
theorem d_R_runs_101 : decode I_R_runs.2.1 101 = .ok (.istore 5, 2) := by decide +kernel
theorem d_R_runs_103 : decode I_R_runs.2.1 103 = .ok (.iload 5, 2) := by decide +kernel
theorem d_R_runs_105 : decode I_R_runs.2.1 105 = .ok (.aload_n 0, 1) := by decide +kernel
theorem d_R_runs_106 : decode I_R_runs.2.1 106 = .ok (.getfield 146, 3) := by decide +kernel
theorem d_R_runs_109 : decode I_R_runs.2.1 109 = .ok (.if_icmp .ge 42, 3) := by decide +kernel
theorem d_R_runs_112 : decode I_R_runs.2.1 112 = .ok (.aload_n 0, 1) := by decide +kernel
theorem d_R_runs_113 : decode I_R_runs.2.1 113 = .ok (.getfield 28, 3) := by decide +kernel
theorem d_R_runs_116 : decode I_R_runs.2.1 116 = .ok (.iload 5, 2) := by decide +kernel
theorem d_R_runs_118 : decode I_R_runs.2.1 118 = .ok (.iaload, 1) := by decide +kernel
theorem d_R_runs_119 : decode I_R_runs.2.1 119 = .ok (.iload 4, 2) := by decide +kernel
theorem d_R_runs_121 : decode I_R_runs.2.1 121 = .ok (.if_icmp .ne 24, 3) := by decide +kernel
theorem d_R_runs_124 : decode I_R_runs.2.1 124 = .ok (.aload_n 0, 1) := by decide +kernel
theorem d_R_runs_125 : decode I_R_runs.2.1 125 = .ok (.iload_n 1, 1) := by decide +kernel
theorem d_R_runs_126 : decode I_R_runs.2.1 126 = .ok (.iload 4, 2) := by decide +kernel
theorem d_R_runs_128 : decode I_R_runs.2.1 128 = .ok (.aload_n 0, 1) := by decide +kernel
theorem d_R_runs_129 : decode I_R_runs.2.1 129 = .ok (.getfield 31, 3) := by decide +kernel
theorem d_R_runs_132 : decode I_R_runs.2.1 132 = .ok (.iload 5, 2) := by decide +kernel
theorem d_R_runs_134 : decode I_R_runs.2.1 134 = .ok (.iaload, 1) := by decide +kernel
theorem d_R_runs_135 : decode I_R_runs.2.1 135 = .ok (.aload_n 0, 1) := by decide +kernel
theorem d_R_runs_136 : decode I_R_runs.2.1 136 = .ok (.getfield 34, 3) := by decide +kernel
theorem d_R_runs_139 : decode I_R_runs.2.1 139 = .ok (.iload 5, 2) := by decide +kernel
theorem d_R_runs_141 : decode I_R_runs.2.1 141 = .ok (.iaload, 1) := by decide +kernel
theorem d_R_runs_142 : decode I_R_runs.2.1 142 = .ok (.invokevirtual 165, 3) := by decide +kernel
theorem d_R_runs_145 : decode I_R_runs.2.1 145 = .ok (.iinc 5 1, 3) := by decide +kernel
theorem d_R_runs_148 : decode I_R_runs.2.1 148 = .ok (.goto (-45), 3) := by decide +kernel
theorem d_R_runs_151 : decode I_R_runs.2.1 151 = .ok (.iconst 0, 1) := by decide +kernel
theorem d_R_runs_152 : decode I_R_runs.2.1 152 = .ok (.istore 5, 2) := by decide +kernel
theorem d_R_runs_154 : decode I_R_runs.2.1 154 = .ok (.iload 5, 2) := by decide +kernel
theorem d_R_runs_156 : decode I_R_runs.2.1 156 = .ok (.aload_n 0, 1) := by decide +kernel
theorem d_R_runs_157 : decode I_R_runs.2.1 157 = .ok (.getfield 102, 3) := by decide +kernel
theorem d_R_runs_160 : decode I_R_runs.2.1 160 = .ok (.if_icmp .ge 72, 3) := by decide +kernel
theorem d_R_runs_163 : decode I_R_runs.2.1 163 = .ok (.aload_n 0, 1) := by decide +kernel
theorem d_R_runs_164 : decode I_R_runs.2.1 164 = .ok (.getfield 37, 3) := by decide +kernel
theorem d_R_runs_167 : decode I_R_runs.2.1 167 = .ok (.iload 5, 2) := by decide +kernel
theorem d_R_runs_169 : decode I_R_runs.2.1 169 = .ok (.iaload, 1) := by decide +kernel
theorem d_R_runs_170 : decode I_R_runs.2.1 170 = .ok (.aload_n 0, 1) := by decide +kernel
theorem d_R_runs_171 : decode I_R_runs.2.1 171 = .ok (.getfield 120, 3) := by decide +kernel
theorem d_R_runs_174 : decode I_R_runs.2.1 174 = .ok (.if_icmp .le 18, 3) := by decide +kernel
theorem d_R_runs_177 : decode I_R_runs.2.1 177 = .ok (.aload_n 0, 1) := by decide +kernel
theorem d_R_runs_178 : decode I_R_runs.2.1 178 = .ok (.getfield 37, 3) := by decide +kernel
theorem d_R_runs_181 : decode I_R_runs.2.1 181 = .ok (.iload 5, 2) := by decide +kernel
theorem d_R_runs_183 : decode I_R_runs.2.1 183 = .ok (.iaload, 1) := by decide +kernel
theorem d_R_runs_184 : decode I_R_runs.2.1 184 = .ok (.aload_n 0, 1) := by decide +kernel
theorem d_R_runs_185 : decode I_R_runs.2.1 185 = .ok (.getfield 120, 3) := by decide +kernel
theorem d_R_runs_188 : decode I_R_runs.2.1 188 = .ok (.isub, 1) := by decide +kernel
theorem d_R_runs_189 : decode I_R_runs.2.1 189 = .ok (.goto 4, 3) := by decide +kernel
theorem d_R_runs_192 : decode I_R_runs.2.1 192 = .ok (.iconst 0, 1) := by decide +kernel
theorem d_R_runs_193 : decode I_R_runs.2.1 193 = .ok (.istore 6, 2) := by decide +kernel
theorem d_R_runs_195 : decode I_R_runs.2.1 195 = .ok (.aload_n 0, 1) := by decide +kernel
theorem d_R_runs_196 : decode I_R_runs.2.1 196 = .ok (.getfield 37, 3) := by decide +kernel
theorem d_R_runs_199 : decode I_R_runs.2.1 199 = .ok (.iload 5, 2) := by decide +kernel
theorem d_R_runs_201 : decode I_R_runs.2.1 201 = .ok (.aload_n 0, 1) := by decide +kernel
theorem d_R_runs_202 : decode I_R_runs.2.1 202 = .ok (.getfield 162, 3) := by decide +kernel
theorem d_R_runs_205 : decode I_R_runs.2.1 205 = .ok (.iload 5, 2) := by decide +kernel
theorem d_R_runs_207 : decode I_R_runs.2.1 207 = .ok (.invokestatic 155, 3) := by decide +kernel
theorem d_R_runs_210 : decode I_R_runs.2.1 210 = .ok (.ifCond .eq 13, 3) := by decide +kernel
theorem d_R_runs_213 : decode I_R_runs.2.1 213 = .ok (.aload_n 0, 1) := by decide +kernel
theorem d_R_runs_214 : decode I_R_runs.2.1 214 = .ok (.getfield 37, 3) := by decide +kernel
theorem d_R_runs_217 : decode I_R_runs.2.1 217 = .ok (.iload 5, 2) := by decide +kernel
theorem d_R_runs_219 : decode I_R_runs.2.1 219 = .ok (.iaload, 1) := by decide +kernel
theorem d_R_runs_220 : decode I_R_runs.2.1 220 = .ok (.goto 5, 3) := by decide +kernel
theorem d_R_runs_223 : decode I_R_runs.2.1 223 = .ok (.iload 6, 2) := by decide +kernel
theorem d_R_runs_225 : decode I_R_runs.2.1 225 = .ok (.iastore, 1) := by decide +kernel
theorem d_R_runs_226 : decode I_R_runs.2.1 226 = .ok (.iinc 5 1, 3) := by decide +kernel
theorem d_R_runs_229 : decode I_R_runs.2.1 229 = .ok (.goto (-75), 3) := by decide +kernel
theorem d_R_runs_232 : decode I_R_runs.2.1 232 = .ok (.aload_n 0, 1) := by decide +kernel
theorem d_R_runs_233 : decode I_R_runs.2.1 233 = .ok (.getfield 152, 3) := by decide +kernel
theorem d_R_runs_236 : decode I_R_runs.2.1 236 = .ok (.iconst (-1), 1) := by decide +kernel
theorem d_R_runs_237 : decode I_R_runs.2.1 237 = .ok (.if_icmp .eq 19, 3) := by decide +kernel
theorem d_R_runs_240 : decode I_R_runs.2.1 240 = .ok (.aload_n 0, 1) := by decide +kernel
theorem d_R_runs_241 : decode I_R_runs.2.1 241 = .ok (.getfield 37, 3) := by decide +kernel
theorem d_R_runs_244 : decode I_R_runs.2.1 244 = .ok (.aload_n 0, 1) := by decide +kernel
theorem d_R_runs_245 : decode I_R_runs.2.1 245 = .ok (.getfield 152, 3) := by decide +kernel
theorem d_R_runs_248 : decode I_R_runs.2.1 248 = .ok (.dup2, 1) := by decide +kernel
theorem d_R_runs_249 : decode I_R_runs.2.1 249 = .ok (.iaload, 1) := by decide +kernel
theorem d_R_runs_250 : decode I_R_runs.2.1 250 = .ok (.aload_n 0, 1) := by decide +kernel
theorem d_R_runs_251 : decode I_R_runs.2.1 251 = .ok (.getfield 90, 3) := by decide +kernel
theorem d_R_runs_254 : decode I_R_runs.2.1 254 = .ok (.iadd, 1) := by decide +kernel
theorem d_R_runs_255 : decode I_R_runs.2.1 255 = .ok (.iastore, 1) := by decide +kernel
theorem d_R_runs_256 : decode I_R_runs.2.1 256 = .ok (.aload_n 0, 1) := by decide +kernel
theorem d_R_runs_257 : decode I_R_runs.2.1 257 = .ok (.iload_n 3, 1) := by decide +kernel
theorem d_R_runs_258 : decode I_R_runs.2.1 258 = .ok (.invokevirtual 169, 3) := by decide +kernel
theorem d_R_runs_261 : decode I_R_runs.2.1 261 = .ok (.istore_n 3, 1) := by decide +kernel
theorem d_R_runs_262 : decode I_R_runs.2.1 262 = .ok (.aload_n 0, 1) := by decide +kernel
theorem d_R_runs_263 : decode I_R_runs.2.1 263 = .ok (.getfield 43, 3) := by decide +kernel
theorem d_R_runs_266 : decode I_R_runs.2.1 266 = .ok (.iload 4, 2) := by decide +kernel
theorem d_R_runs_268 : decode I_R_runs.2.1 268 = .ok (.iload_n 3, 1) := by decide +kernel
theorem d_R_runs_269 : decode I_R_runs.2.1 269 = .ok (.iastore, 1) := by decide +kernel
theorem d_R_runs_270 : decode I_R_runs.2.1 270 = .ok (.iinc 4 1, 3) := by decide +kernel
theorem d_R_runs_273 : decode I_R_runs.2.1 273 = .ok (.goto (-235), 3) := by decide +kernel
theorem d_R_runs_276 : decode I_R_runs.2.1 276 = .ok (.return_, 1) := by decide +kernel
theorem d_R_runsTold_0 : decode I_R_runsTold.2.1 0 = .ok (.aload_n 0, 1) := by decide +kernel
theorem d_R_runsTold_1 : decode I_R_runsTold.2.1 1 = .ok (.invokevirtual 109, 3) := by decide +kernel
theorem d_R_runsTold_4 : decode I_R_runsTold.2.1 4 = .ok (.aload_n 0, 1) := by decide +kernel
theorem d_R_runsTold_5 : decode I_R_runsTold.2.1 5 = .ok (.invokevirtual 172, 3) := by decide +kernel
theorem d_R_runsTold_8 : decode I_R_runsTold.2.1 8 = .ok (.aload_n 0, 1) := by decide +kernel
theorem d_R_runsTold_9 : decode I_R_runsTold.2.1 9 = .ok (.iload_n 1, 1) := by decide +kernel
theorem d_R_runsTold_10 : decode I_R_runsTold.2.1 10 = .ok (.iload_n 2, 1) := by decide +kernel
theorem d_R_runsTold_11 : decode I_R_runsTold.2.1 11 = .ok (.invokevirtual 175, 3) := by decide +kernel
theorem d_R_runsTold_14 : decode I_R_runsTold.2.1 14 = .ok (.return_, 1) := by decide +kernel
theorem d_R_likingOf_0 : decode I_R_likingOf.2.1 0 = .ok (.aload_n 0, 1) := by decide +kernel
theorem d_R_likingOf_1 : decode I_R_likingOf.2.1 1 = .ok (.iload_n 1, 1) := by decide +kernel
theorem d_R_likingOf_2 : decode I_R_likingOf.2.1 2 = .ok (.iload_n 2, 1) := by decide +kernel
theorem d_R_likingOf_3 : decode I_R_likingOf.2.1 3 = .ok (.invokevirtual 179, 3) := by decide +kernel
theorem d_R_likingOf_6 : decode I_R_likingOf.2.1 6 = .ok (.aload_n 0, 1) := by decide +kernel
theorem d_R_likingOf_7 : decode I_R_likingOf.2.1 7 = .ok (.getfield 37, 3) := by decide +kernel
theorem d_R_likingOf_10 : decode I_R_likingOf.2.1 10 = .ok (.iload_n 3, 1) := by decide +kernel
theorem d_R_likingOf_11 : decode I_R_likingOf.2.1 11 = .ok (.iaload, 1) := by decide +kernel
theorem d_R_likingOf_12 : decode I_R_likingOf.2.1 12 = .ok (.ireturn, 1) := by decide +kernel
theorem d_R_liking_0 : decode I_R_liking.2.1 0 = .ok (.iload_n 1, 1) := by decide +kernel
theorem d_R_liking_1 : decode I_R_liking.2.1 1 = .ok (.iconst 0, 1) := by decide +kernel
theorem d_R_liking_2 : decode I_R_liking.2.1 2 = .ok (.iconst 1, 1) := by decide +kernel
theorem d_R_liking_3 : decode I_R_liking.2.1 3 = .ok (.invokestatic 95, 3) := by decide +kernel
theorem d_R_liking_6 : decode I_R_liking.2.1 6 = .ok (.ifCond .eq 28, 3) := by decide +kernel
theorem d_R_liking_9 : decode I_R_liking.2.1 9 = .ok (.iload_n 2, 1) := by decide +kernel
theorem d_R_liking_10 : decode I_R_liking.2.1 10 = .ok (.invokestatic 126, 3) := by decide +kernel
theorem d_R_liking_13 : decode I_R_liking.2.1 13 = .ok (.ifCond .eq 21, 3) := by decide +kernel
theorem d_R_liking_16 : decode I_R_liking.2.1 16 = .ok (.aload_n 0, 1) := by decide +kernel
theorem d_R_liking_17 : decode I_R_liking.2.1 17 = .ok (.iload_n 3, 1) := by decide +kernel
theorem d_R_liking_18 : decode I_R_liking.2.1 18 = .ok (.invokevirtual 112, 3) := by decide +kernel
theorem d_R_liking_21 : decode I_R_liking.2.1 21 = .ok (.ifCond .eq 13, 3) := by decide +kernel
theorem d_R_liking_24 : decode I_R_liking.2.1 24 = .ok (.aload_n 0, 1) := by decide +kernel
theorem d_R_liking_25 : decode I_R_liking.2.1 25 = .ok (.iload_n 1, 1) := by decide +kernel
theorem d_R_liking_26 : decode I_R_liking.2.1 26 = .ok (.iload_n 2, 1) := by decide +kernel
theorem d_R_liking_27 : decode I_R_liking.2.1 27 = .ok (.iload_n 3, 1) := by decide +kernel
theorem d_R_liking_28 : decode I_R_liking.2.1 28 = .ok (.invokevirtual 182, 3) := by decide +kernel
theorem d_R_liking_31 : decode I_R_liking.2.1 31 = .ok (.goto 5, 3) := by decide +kernel
theorem d_R_liking_34 : decode I_R_liking.2.1 34 = .ok (.bipush (-2), 2) := by decide +kernel
theorem d_R_liking_36 : decode I_R_liking.2.1 36 = .ok (.ireturn, 1) := by decide +kernel
theorem d_R_foundOf_0 : decode I_R_foundOf.2.1 0 = .ok (.aload_n 0, 1) := by decide +kernel
theorem d_R_foundOf_1 : decode I_R_foundOf.2.1 1 = .ok (.iload_n 1, 1) := by decide +kernel
theorem d_R_foundOf_2 : decode I_R_foundOf.2.1 2 = .ok (.iload_n 2, 1) := by decide +kernel
theorem d_R_foundOf_3 : decode I_R_foundOf.2.1 3 = .ok (.invokevirtual 179, 3) := by decide +kernel
theorem d_R_foundOf_6 : decode I_R_foundOf.2.1 6 = .ok (.aload_n 0, 1) := by decide +kernel
theorem d_R_foundOf_7 : decode I_R_foundOf.2.1 7 = .ok (.getfield 43, 3) := by decide +kernel
theorem d_R_foundOf_10 : decode I_R_foundOf.2.1 10 = .ok (.iload_n 2, 1) := by decide +kernel
theorem d_R_foundOf_11 : decode I_R_foundOf.2.1 11 = .ok (.iaload, 1) := by decide +kernel
theorem d_R_foundOf_12 : decode I_R_foundOf.2.1 12 = .ok (.ireturn, 1) := by decide +kernel
theorem d_R_found_0 : decode I_R_found.2.1 0 = .ok (.iload_n 1, 1) := by decide +kernel
theorem d_R_found_1 : decode I_R_found.2.1 1 = .ok (.iconst 0, 1) := by decide +kernel
theorem d_R_found_2 : decode I_R_found.2.1 2 = .ok (.iconst 1, 1) := by decide +kernel
theorem d_R_found_3 : decode I_R_found.2.1 3 = .ok (.invokestatic 95, 3) := by decide +kernel
theorem d_R_found_6 : decode I_R_found.2.1 6 = .ok (.ifCond .eq 19, 3) := by decide +kernel
theorem d_R_found_9 : decode I_R_found.2.1 9 = .ok (.iload_n 2, 1) := by decide +kernel
theorem d_R_found_10 : decode I_R_found.2.1 10 = .ok (.invokestatic 126, 3) := by decide +kernel
theorem d_R_found_13 : decode I_R_found.2.1 13 = .ok (.ifCond .eq 12, 3) := by decide +kernel
theorem d_R_found_16 : decode I_R_found.2.1 16 = .ok (.aload_n 0, 1) := by decide +kernel
theorem d_R_found_17 : decode I_R_found.2.1 17 = .ok (.iload_n 1, 1) := by decide +kernel
theorem d_R_found_18 : decode I_R_found.2.1 18 = .ok (.iload_n 2, 1) := by decide +kernel
theorem d_R_found_19 : decode I_R_found.2.1 19 = .ok (.invokevirtual 185, 3) := by decide +kernel
theorem d_R_found_22 : decode I_R_found.2.1 22 = .ok (.goto 5, 3) := by decide +kernel
theorem d_R_found_25 : decode I_R_found.2.1 25 = .ok (.bipush (-2), 2) := by decide +kernel
theorem d_R_found_27 : decode I_R_found.2.1 27 = .ok (.ireturn, 1) := by decide +kernel
theorem d_R_shareOf_0 : decode I_R_shareOf.2.1 0 = .ok (.aload_n 0, 1) := by decide +kernel
theorem d_R_shareOf_1 : decode I_R_shareOf.2.1 1 = .ok (.iconst 0, 1) := by decide +kernel
theorem d_R_shareOf_2 : decode I_R_shareOf.2.1 2 = .ok (.iload_n 1, 1) := by decide +kernel
theorem d_R_shareOf_3 : decode I_R_shareOf.2.1 3 = .ok (.invokevirtual 179, 3) := by decide +kernel
theorem d_R_shareOf_6 : decode I_R_shareOf.2.1 6 = .ok (.iconst 0, 1) := by decide +kernel
theorem d_R_shareOf_7 : decode I_R_shareOf.2.1 7 = .ok (.istore 4, 2) := by decide +kernel
theorem d_R_shareOf_9 : decode I_R_shareOf.2.1 9 = .ok (.iconst 0, 1) := by decide +kernel
theorem d_R_shareOf_10 : decode I_R_shareOf.2.1 10 = .ok (.istore 5, 2) := by decide +kernel
theorem d_R_shareOf_12 : decode I_R_shareOf.2.1 12 = .ok (.iload 5, 2) := by decide +kernel
theorem d_R_shareOf_14 : decode I_R_shareOf.2.1 14 = .ok (.aload_n 0, 1) := by decide +kernel
theorem d_R_shareOf_15 : decode I_R_shareOf.2.1 15 = .ok (.getfield 102, 3) := by decide +kernel
theorem d_R_shareOf_18 : decode I_R_shareOf.2.1 18 = .ok (.if_icmp .ge 21, 3) := by decide +kernel
theorem d_R_shareOf_21 : decode I_R_shareOf.2.1 21 = .ok (.iload 4, 2) := by decide +kernel
theorem d_R_shareOf_23 : decode I_R_shareOf.2.1 23 = .ok (.aload_n 0, 1) := by decide +kernel
theorem d_R_shareOf_24 : decode I_R_shareOf.2.1 24 = .ok (.getfield 37, 3) := by decide +kernel
theorem d_R_shareOf_27 : decode I_R_shareOf.2.1 27 = .ok (.iload 5, 2) := by decide +kernel
theorem d_R_shareOf_29 : decode I_R_shareOf.2.1 29 = .ok (.iaload, 1) := by decide +kernel
theorem d_R_shareOf_30 : decode I_R_shareOf.2.1 30 = .ok (.iadd, 1) := by decide +kernel
theorem d_R_shareOf_31 : decode I_R_shareOf.2.1 31 = .ok (.istore 4, 2) := by decide +kernel
theorem d_R_shareOf_33 : decode I_R_shareOf.2.1 33 = .ok (.iinc 5 1, 3) := by decide +kernel
theorem d_R_shareOf_36 : decode I_R_shareOf.2.1 36 = .ok (.goto (-24), 3) := by decide +kernel
theorem d_R_shareOf_39 : decode I_R_shareOf.2.1 39 = .ok (.iload 4, 2) := by decide +kernel
theorem d_R_shareOf_41 : decode I_R_shareOf.2.1 41 = .ok (.ifCond .ne 11, 3) := by decide +kernel
theorem d_R_shareOf_44 : decode I_R_shareOf.2.1 44 = .ok (.bipush (-3), 2) := by decide +kernel
theorem d_R_shareOf_46 : decode I_R_shareOf.2.1 46 = .ok (.invokestatic 189, 3) := by decide +kernel
theorem d_R_shareOf_49 : decode I_R_shareOf.2.1 49 = .ok (.goto 17, 3) := by decide +kernel
theorem d_R_shareOf_52 : decode I_R_shareOf.2.1 52 = .ok (.aload_n 0, 1) := by decide +kernel
theorem d_R_shareOf_53 : decode I_R_shareOf.2.1 53 = .ok (.getfield 37, 3) := by decide +kernel
theorem d_R_shareOf_56 : decode I_R_shareOf.2.1 56 = .ok (.iload_n 2, 1) := by decide +kernel
theorem d_R_shareOf_57 : decode I_R_shareOf.2.1 57 = .ok (.iaload, 1) := by decide +kernel
theorem d_R_shareOf_58 : decode I_R_shareOf.2.1 58 = .ok (.i2l, 1) := by decide +kernel
theorem d_R_shareOf_59 : decode I_R_shareOf.2.1 59 = .ok (.iload 4, 2) := by decide +kernel
theorem d_R_shareOf_61 : decode I_R_shareOf.2.1 61 = .ok (.i2l, 1) := by decide +kernel
theorem d_R_shareOf_62 : decode I_R_shareOf.2.1 62 = .ok (.iload_n 3, 1) := by decide +kernel
theorem d_R_shareOf_63 : decode I_R_shareOf.2.1 63 = .ok (.invokestatic 193, 3) := by decide +kernel
theorem d_R_shareOf_66 : decode I_R_shareOf.2.1 66 = .ok (.lreturn, 1) := by decide +kernel
theorem d_R_share_0 : decode I_R_share.2.1 0 = .ok (.iload_n 1, 1) := by decide +kernel
theorem d_R_share_1 : decode I_R_share.2.1 1 = .ok (.invokestatic 126, 3) := by decide +kernel
theorem d_R_share_4 : decode I_R_share.2.1 4 = .ok (.ifCond .eq 30, 3) := by decide +kernel
theorem d_R_share_7 : decode I_R_share.2.1 7 = .ok (.aload_n 0, 1) := by decide +kernel
theorem d_R_share_8 : decode I_R_share.2.1 8 = .ok (.iload_n 2, 1) := by decide +kernel
theorem d_R_share_9 : decode I_R_share.2.1 9 = .ok (.invokevirtual 112, 3) := by decide +kernel
theorem d_R_share_12 : decode I_R_share.2.1 12 = .ok (.ifCond .eq 22, 3) := by decide +kernel
theorem d_R_share_15 : decode I_R_share.2.1 15 = .ok (.iload_n 3, 1) := by decide +kernel
theorem d_R_share_16 : decode I_R_share.2.1 16 = .ok (.iconst 0, 1) := by decide +kernel
theorem d_R_share_17 : decode I_R_share.2.1 17 = .ok (.iconst 1, 1) := by decide +kernel
theorem d_R_share_18 : decode I_R_share.2.1 18 = .ok (.invokestatic 95, 3) := by decide +kernel
theorem d_R_share_21 : decode I_R_share.2.1 21 = .ok (.ifCond .eq 13, 3) := by decide +kernel
theorem d_R_share_24 : decode I_R_share.2.1 24 = .ok (.aload_n 0, 1) := by decide +kernel
theorem d_R_share_25 : decode I_R_share.2.1 25 = .ok (.iload_n 1, 1) := by decide +kernel
theorem d_R_share_26 : decode I_R_share.2.1 26 = .ok (.iload_n 2, 1) := by decide +kernel
theorem d_R_share_27 : decode I_R_share.2.1 27 = .ok (.iload_n 3, 1) := by decide +kernel
theorem d_R_share_28 : decode I_R_share.2.1 28 = .ok (.invokevirtual 197, 3) := by decide +kernel
theorem d_R_share_31 : decode I_R_share.2.1 31 = .ok (.goto 8, 3) := by decide +kernel
theorem d_R_share_34 : decode I_R_share.2.1 34 = .ok (.bipush (-2), 2) := by decide +kernel
theorem d_R_share_36 : decode I_R_share.2.1 36 = .ok (.invokestatic 189, 3) := by decide +kernel
theorem d_R_share_39 : decode I_R_share.2.1 39 = .ok (.lreturn, 1) := by decide +kernel
theorem d_R_often_0 : decode I_R_often.2.1 0 = .ok (.iconst 0, 1) := by decide +kernel
theorem d_R_often_1 : decode I_R_often.2.1 1 = .ok (.istore 4, 2) := by decide +kernel
theorem d_R_often_3 : decode I_R_often.2.1 3 = .ok (.iconst 0, 1) := by decide +kernel
theorem d_R_often_4 : decode I_R_often.2.1 4 = .ok (.istore 5, 2) := by decide +kernel
theorem d_R_often_6 : decode I_R_often.2.1 6 = .ok (.iload 5, 2) := by decide +kernel
theorem d_R_often_8 : decode I_R_often.2.1 8 = .ok (.aload_n 0, 1) := by decide +kernel
theorem d_R_often_9 : decode I_R_often.2.1 9 = .ok (.getfield 132, 3) := by decide +kernel
theorem d_R_often_12 : decode I_R_often.2.1 12 = .ok (.if_icmp .ge 71, 3) := by decide +kernel
theorem d_R_often_15 : decode I_R_often.2.1 15 = .ok (.iload 4, 2) := by decide +kernel
theorem d_R_often_17 : decode I_R_often.2.1 17 = .ok (.aload_n 0, 1) := by decide +kernel
theorem d_R_often_18 : decode I_R_often.2.1 18 = .ok (.getfield 19, 3) := by decide +kernel
theorem d_R_often_21 : decode I_R_often.2.1 21 = .ok (.iload 5, 2) := by decide +kernel
theorem d_R_often_23 : decode I_R_often.2.1 23 = .ok (.iaload, 1) := by decide +kernel
theorem d_R_often_24 : decode I_R_often.2.1 24 = .ok (.iload_n 1, 1) := by decide +kernel
theorem d_R_often_25 : decode I_R_often.2.1 25 = .ok (.if_icmp .ne 48, 3) := by decide +kernel
theorem d_R_often_28 : decode I_R_often.2.1 28 = .ok (.aload_n 0, 1) := by decide +kernel
theorem d_R_often_29 : decode I_R_often.2.1 29 = .ok (.getfield 22, 3) := by decide +kernel
theorem d_R_often_32 : decode I_R_often.2.1 32 = .ok (.iload 5, 2) := by decide +kernel
theorem d_R_often_34 : decode I_R_often.2.1 34 = .ok (.iaload, 1) := by decide +kernel
theorem d_R_often_35 : decode I_R_often.2.1 35 = .ok (.iload_n 2, 1) := by decide +kernel
theorem d_R_often_36 : decode I_R_often.2.1 36 = .ok (.if_icmp .ne 37, 3) := by decide +kernel
theorem d_R_often_39 : decode I_R_often.2.1 39 = .ok (.aload_n 0, 1) := by decide +kernel
theorem d_R_often_40 : decode I_R_often.2.1 40 = .ok (.getfield 25, 3) := by decide +kernel
theorem d_R_often_43 : decode I_R_often.2.1 43 = .ok (.iload 5, 2) := by decide +kernel
theorem d_R_often_45 : decode I_R_often.2.1 45 = .ok (.iaload, 1) := by decide +kernel
theorem d_R_often_46 : decode I_R_often.2.1 46 = .ok (.iload_n 3, 1) := by decide +kernel
theorem d_R_often_47 : decode I_R_often.2.1 47 = .ok (.if_icmp .ne 26, 3) := by decide +kernel
theorem d_R_often_50 : decode I_R_often.2.1 50 = .ok (.iload_n 2, 1) := by decide +kernel
theorem d_R_often_51 : decode I_R_often.2.1 51 = .ok (.aload_n 0, 1) := by decide +kernel
theorem d_R_often_52 : decode I_R_often.2.1 52 = .ok (.getfield 102, 3) := by decide +kernel
theorem d_R_often_55 : decode I_R_often.2.1 55 = .ok (.if_icmp .ge 18, 3) := by decide +kernel
theorem d_R_often_58 : decode I_R_often.2.1 58 = .ok (.aload_n 0, 1) := by decide +kernel
theorem d_R_often_59 : decode I_R_often.2.1 59 = .ok (.getfield 123, 3) := by decide +kernel
theorem d_R_often_62 : decode I_R_often.2.1 62 = .ok (.iload_n 1, 1) := by decide +kernel
theorem d_R_often_63 : decode I_R_often.2.1 63 = .ok (.invokestatic 155, 3) := by decide +kernel
theorem d_R_often_66 : decode I_R_often.2.1 66 = .ok (.ifCond .ne 7, 3) := by decide +kernel
theorem d_R_often_69 : decode I_R_often.2.1 69 = .ok (.iconst 1, 1) := by decide +kernel
theorem d_R_often_70 : decode I_R_often.2.1 70 = .ok (.goto 4, 3) := by decide +kernel
theorem d_R_often_73 : decode I_R_often.2.1 73 = .ok (.iconst 0, 1) := by decide +kernel
theorem d_R_often_74 : decode I_R_often.2.1 74 = .ok (.iadd, 1) := by decide +kernel
theorem d_R_often_75 : decode I_R_often.2.1 75 = .ok (.istore 4, 2) := by decide +kernel
theorem d_R_often_77 : decode I_R_often.2.1 77 = .ok (.iinc 5 1, 3) := by decide +kernel
theorem d_R_often_80 : decode I_R_often.2.1 80 = .ok (.goto (-74), 3) := by decide +kernel
theorem d_R_often_83 : decode I_R_often.2.1 83 = .ok (.iload 4, 2) := by decide +kernel
theorem d_R_often_85 : decode I_R_often.2.1 85 = .ok (.ireturn, 1) := by decide +kernel
theorem d_R_areAlike_0 : decode I_R_areAlike.2.1 0 = .ok (.iconst 0, 1) := by decide +kernel
theorem d_R_areAlike_1 : decode I_R_areAlike.2.1 1 = .ok (.istore_n 3, 1) := by decide +kernel
theorem d_R_areAlike_2 : decode I_R_areAlike.2.1 2 = .ok (.iconst 1, 1) := by decide +kernel
theorem d_R_areAlike_3 : decode I_R_areAlike.2.1 3 = .ok (.istore 4, 2) := by decide +kernel
theorem d_R_areAlike_5 : decode I_R_areAlike.2.1 5 = .ok (.iconst 0, 1) := by decide +kernel
theorem d_R_areAlike_6 : decode I_R_areAlike.2.1 6 = .ok (.istore 5, 2) := by decide +kernel
theorem d_R_areAlike_8 : decode I_R_areAlike.2.1 8 = .ok (.iload 5, 2) := by decide +kernel
theorem d_R_areAlike_10 : decode I_R_areAlike.2.1 10 = .ok (.aload_n 0, 1) := by decide +kernel
theorem d_R_areAlike_11 : decode I_R_areAlike.2.1 11 = .ok (.getfield 102, 3) := by decide +kernel
theorem d_R_areAlike_14 : decode I_R_areAlike.2.1 14 = .ok (.if_icmp .ge 69, 3) := by decide +kernel
theorem d_R_areAlike_17 : decode I_R_areAlike.2.1 17 = .ok (.iconst 0, 1) := by decide +kernel
theorem d_R_areAlike_18 : decode I_R_areAlike.2.1 18 = .ok (.istore 6, 2) := by decide +kernel
theorem d_R_areAlike_20 : decode I_R_areAlike.2.1 20 = .ok (.iload 6, 2) := by decide +kernel
theorem d_R_areAlike_22 : decode I_R_areAlike.2.1 22 = .ok (.iconst 3, 1) := by decide +kernel
theorem d_R_areAlike_23 : decode I_R_areAlike.2.1 23 = .ok (.if_icmp .ge 54, 3) := by decide +kernel
theorem d_R_areAlike_26 : decode I_R_areAlike.2.1 26 = .ok (.iload 4, 2) := by decide +kernel
theorem d_R_areAlike_28 : decode I_R_areAlike.2.1 28 = .ok (.ifCond .eq 28, 3) := by decide +kernel
theorem d_R_areAlike_31 : decode I_R_areAlike.2.1 31 = .ok (.aload_n 0, 1) := by decide +kernel
theorem d_R_areAlike_32 : decode I_R_areAlike.2.1 32 = .ok (.iload_n 1, 1) := by decide +kernel
theorem d_R_areAlike_33 : decode I_R_areAlike.2.1 33 = .ok (.iload 5, 2) := by decide +kernel
theorem d_R_areAlike_35 : decode I_R_areAlike.2.1 35 = .ok (.iload 6, 2) := by decide +kernel
theorem d_R_areAlike_37 : decode I_R_areAlike.2.1 37 = .ok (.invokevirtual 201, 3) := by decide +kernel
theorem d_R_areAlike_40 : decode I_R_areAlike.2.1 40 = .ok (.aload_n 0, 1) := by decide +kernel
theorem d_R_areAlike_41 : decode I_R_areAlike.2.1 41 = .ok (.iload_n 2, 1) := by decide +kernel
theorem d_R_areAlike_42 : decode I_R_areAlike.2.1 42 = .ok (.iload 5, 2) := by decide +kernel
theorem d_R_areAlike_44 : decode I_R_areAlike.2.1 44 = .ok (.iload 6, 2) := by decide +kernel
theorem d_R_areAlike_46 : decode I_R_areAlike.2.1 46 = .ok (.invokevirtual 201, 3) := by decide +kernel
theorem d_R_areAlike_49 : decode I_R_areAlike.2.1 49 = .ok (.if_icmp .ne 7, 3) := by decide +kernel
theorem d_R_areAlike_52 : decode I_R_areAlike.2.1 52 = .ok (.iconst 1, 1) := by decide +kernel
theorem d_R_areAlike_53 : decode I_R_areAlike.2.1 53 = .ok (.goto 4, 3) := by decide +kernel
theorem d_R_areAlike_56 : decode I_R_areAlike.2.1 56 = .ok (.iconst 0, 1) := by decide +kernel
theorem d_R_areAlike_57 : decode I_R_areAlike.2.1 57 = .ok (.istore 4, 2) := by decide +kernel
theorem d_R_areAlike_59 : decode I_R_areAlike.2.1 59 = .ok (.iload_n 3, 1) := by decide +kernel
theorem d_R_areAlike_60 : decode I_R_areAlike.2.1 60 = .ok (.aload_n 0, 1) := by decide +kernel
theorem d_R_areAlike_61 : decode I_R_areAlike.2.1 61 = .ok (.iload_n 1, 1) := by decide +kernel
theorem d_R_areAlike_62 : decode I_R_areAlike.2.1 62 = .ok (.iload 5, 2) := by decide +kernel
theorem d_R_areAlike_64 : decode I_R_areAlike.2.1 64 = .ok (.iload 6, 2) := by decide +kernel
theorem d_R_areAlike_66 : decode I_R_areAlike.2.1 66 = .ok (.invokevirtual 201, 3) := by decide +kernel
theorem d_R_areAlike_69 : decode I_R_areAlike.2.1 69 = .ok (.iadd, 1) := by decide +kernel
theorem d_R_areAlike_70 : decode I_R_areAlike.2.1 70 = .ok (.istore_n 3, 1) := by decide +kernel
theorem d_R_areAlike_71 : decode I_R_areAlike.2.1 71 = .ok (.iinc 6 1, 3) := by decide +kernel
theorem d_R_areAlike_74 : decode I_R_areAlike.2.1 74 = .ok (.goto (-54), 3) := by decide +kernel
theorem d_R_areAlike_77 : decode I_R_areAlike.2.1 77 = .ok (.iinc 5 1, 3) := by decide +kernel
theorem d_R_areAlike_80 : decode I_R_areAlike.2.1 80 = .ok (.goto (-72), 3) := by decide +kernel
theorem d_R_areAlike_83 : decode I_R_areAlike.2.1 83 = .ok (.iload 4, 2) := by decide +kernel
theorem d_R_areAlike_85 : decode I_R_areAlike.2.1 85 = .ok (.ifCond .eq 11, 3) := by decide +kernel
theorem d_R_areAlike_88 : decode I_R_areAlike.2.1 88 = .ok (.iload_n 3, 1) := by decide +kernel
theorem d_R_areAlike_89 : decode I_R_areAlike.2.1 89 = .ok (.ifCond .le 7, 3) := by decide +kernel
theorem d_R_areAlike_92 : decode I_R_areAlike.2.1 92 = .ok (.iconst 1, 1) := by decide +kernel
theorem d_R_areAlike_93 : decode I_R_areAlike.2.1 93 = .ok (.goto 4, 3) := by decide +kernel
theorem d_R_areAlike_96 : decode I_R_areAlike.2.1 96 = .ok (.iconst 0, 1) := by decide +kernel
theorem d_R_areAlike_97 : decode I_R_areAlike.2.1 97 = .ok (.ireturn, 1) := by decide +kernel
theorem d_R_quarrelOf_0 : decode I_R_quarrelOf.2.1 0 = .ok (.aload_n 0, 1) := by decide +kernel
theorem d_R_quarrelOf_1 : decode I_R_quarrelOf.2.1 1 = .ok (.iconst 0, 1) := by decide +kernel
theorem d_R_quarrelOf_2 : decode I_R_quarrelOf.2.1 2 = .ok (.bipush 29, 2) := by decide +kernel
theorem d_R_quarrelOf_4 : decode I_R_quarrelOf.2.1 4 = .ok (.invokevirtual 179, 3) := by decide +kernel
theorem d_R_quarrelOf_7 : decode I_R_quarrelOf.2.1 7 = .ok (.iconst 1, 1) := by decide +kernel
theorem d_R_quarrelOf_8 : decode I_R_quarrelOf.2.1 8 = .ok (.istore_n 2, 1) := by decide +kernel
theorem d_R_quarrelOf_9 : decode I_R_quarrelOf.2.1 9 = .ok (.iload_n 2, 1) := by decide +kernel
theorem d_R_quarrelOf_10 : decode I_R_quarrelOf.2.1 10 = .ok (.bipush 30, 2) := by decide +kernel
theorem d_R_quarrelOf_12 : decode I_R_quarrelOf.2.1 12 = .ok (.if_icmp .ge 56, 3) := by decide +kernel
theorem d_R_quarrelOf_15 : decode I_R_quarrelOf.2.1 15 = .ok (.iconst 0, 1) := by decide +kernel
theorem d_R_quarrelOf_16 : decode I_R_quarrelOf.2.1 16 = .ok (.istore_n 3, 1) := by decide +kernel
theorem d_R_quarrelOf_17 : decode I_R_quarrelOf.2.1 17 = .ok (.iload_n 3, 1) := by decide +kernel
theorem d_R_quarrelOf_18 : decode I_R_quarrelOf.2.1 18 = .ok (.iload_n 2, 1) := by decide +kernel
theorem d_R_quarrelOf_19 : decode I_R_quarrelOf.2.1 19 = .ok (.if_icmp .ge 43, 3) := by decide +kernel
theorem d_R_quarrelOf_22 : decode I_R_quarrelOf.2.1 22 = .ok (.aload_n 0, 1) := by decide +kernel
theorem d_R_quarrelOf_23 : decode I_R_quarrelOf.2.1 23 = .ok (.getfield 43, 3) := by decide +kernel
theorem d_R_quarrelOf_26 : decode I_R_quarrelOf.2.1 26 = .ok (.iload_n 3, 1) := by decide +kernel
theorem d_R_quarrelOf_27 : decode I_R_quarrelOf.2.1 27 = .ok (.iaload, 1) := by decide +kernel
theorem d_R_quarrelOf_28 : decode I_R_quarrelOf.2.1 28 = .ok (.aload_n 0, 1) := by decide +kernel
theorem d_R_quarrelOf_29 : decode I_R_quarrelOf.2.1 29 = .ok (.getfield 43, 3) := by decide +kernel
theorem d_R_quarrelOf_32 : decode I_R_quarrelOf.2.1 32 = .ok (.iload_n 2, 1) := by decide +kernel
theorem d_R_quarrelOf_33 : decode I_R_quarrelOf.2.1 33 = .ok (.iaload, 1) := by decide +kernel
theorem d_R_quarrelOf_34 : decode I_R_quarrelOf.2.1 34 = .ok (.if_icmp .eq 22, 3) := by decide +kernel
theorem d_R_quarrelOf_37 : decode I_R_quarrelOf.2.1 37 = .ok (.aload_n 0, 1) := by decide +kernel
theorem d_R_quarrelOf_38 : decode I_R_quarrelOf.2.1 38 = .ok (.iload_n 3, 1) := by decide +kernel
theorem d_R_quarrelOf_39 : decode I_R_quarrelOf.2.1 39 = .ok (.iload_n 2, 1) := by decide +kernel
theorem d_R_quarrelOf_40 : decode I_R_quarrelOf.2.1 40 = .ok (.invokevirtual 204, 3) := by decide +kernel
theorem d_R_quarrelOf_43 : decode I_R_quarrelOf.2.1 43 = .ok (.ifCond .eq 13, 3) := by decide +kernel
theorem d_R_quarrelOf_46 : decode I_R_quarrelOf.2.1 46 = .ok (.iload_n 1, 1) := by decide +kernel
theorem d_R_quarrelOf_47 : decode I_R_quarrelOf.2.1 47 = .ok (.ifCond .ne 7, 3) := by decide +kernel
theorem d_R_quarrelOf_50 : decode I_R_quarrelOf.2.1 50 = .ok (.iload_n 2, 1) := by decide +kernel
theorem d_R_quarrelOf_51 : decode I_R_quarrelOf.2.1 51 = .ok (.goto 4, 3) := by decide +kernel
theorem d_R_quarrelOf_54 : decode I_R_quarrelOf.2.1 54 = .ok (.iload_n 3, 1) := by decide +kernel
theorem d_R_quarrelOf_55 : decode I_R_quarrelOf.2.1 55 = .ok (.ireturn, 1) := by decide +kernel
theorem d_R_quarrelOf_56 : decode I_R_quarrelOf.2.1 56 = .ok (.iinc 3 1, 3) := by decide +kernel
theorem d_R_quarrelOf_59 : decode I_R_quarrelOf.2.1 59 = .ok (.goto (-42), 3) := by decide +kernel
theorem d_R_quarrelOf_62 : decode I_R_quarrelOf.2.1 62 = .ok (.iinc 2 1, 3) := by decide +kernel
theorem d_R_quarrelOf_65 : decode I_R_quarrelOf.2.1 65 = .ok (.goto (-56), 3) := by decide +kernel
theorem d_R_quarrelOf_68 : decode I_R_quarrelOf.2.1 68 = .ok (.iconst (-1), 1) := by decide +kernel
theorem d_R_quarrelOf_69 : decode I_R_quarrelOf.2.1 69 = .ok (.ireturn, 1) := by decide +kernel
theorem d_R_quarrel_0 : decode I_R_quarrel.2.1 0 = .ok (.iload_n 1, 1) := by decide +kernel
theorem d_R_quarrel_1 : decode I_R_quarrel.2.1 1 = .ok (.iconst 0, 1) := by decide +kernel
theorem d_R_quarrel_2 : decode I_R_quarrel.2.1 2 = .ok (.iconst 1, 1) := by decide +kernel
theorem d_R_quarrel_3 : decode I_R_quarrel.2.1 3 = .ok (.invokestatic 95, 3) := by decide +kernel
theorem d_R_quarrel_6 : decode I_R_quarrel.2.1 6 = .ok (.ifCond .eq 11, 3) := by decide +kernel
theorem d_R_quarrel_9 : decode I_R_quarrel.2.1 9 = .ok (.aload_n 0, 1) := by decide +kernel
theorem d_R_quarrel_10 : decode I_R_quarrel.2.1 10 = .ok (.iload_n 1, 1) := by decide +kernel
theorem d_R_quarrel_11 : decode I_R_quarrel.2.1 11 = .ok (.invokevirtual 207, 3) := by decide +kernel
theorem d_R_quarrel_14 : decode I_R_quarrel.2.1 14 = .ok (.goto 5, 3) := by decide +kernel
theorem d_R_quarrel_17 : decode I_R_quarrel.2.1 17 = .ok (.bipush (-2), 2) := by decide +kernel
theorem d_R_quarrel_19 : decode I_R_quarrel.2.1 19 = .ok (.ireturn, 1) := by decide +kernel
theorem d_R_dissentNow_0 : decode I_R_dissentNow.2.1 0 = .ok (.aload_n 0, 1) := by decide +kernel
theorem d_R_dissentNow_1 : decode I_R_dissentNow.2.1 1 = .ok (.iconst 0, 1) := by decide +kernel
theorem d_R_dissentNow_2 : decode I_R_dissentNow.2.1 2 = .ok (.bipush 29, 2) := by decide +kernel
theorem d_R_dissentNow_4 : decode I_R_dissentNow.2.1 4 = .ok (.invokevirtual 179, 3) := by decide +kernel
theorem d_R_dissentNow_7 : decode I_R_dissentNow.2.1 7 = .ok (.iconst 0, 1) := by decide +kernel
theorem d_R_dissentNow_8 : decode I_R_dissentNow.2.1 8 = .ok (.istore_n 1, 1) := by decide +kernel
theorem d_R_dissentNow_9 : decode I_R_dissentNow.2.1 9 = .ok (.iload_n 1, 1) := by decide +kernel
theorem d_R_dissentNow_10 : decode I_R_dissentNow.2.1 10 = .ok (.bipush 30, 2) := by decide +kernel
theorem d_R_dissentNow_12 : decode I_R_dissentNow.2.1 12 = .ok (.if_icmp .ge 21, 3) := by decide +kernel
theorem d_R_dissentNow_15 : decode I_R_dissentNow.2.1 15 = .ok (.aload_n 0, 1) := by decide +kernel
theorem d_R_dissentNow_16 : decode I_R_dissentNow.2.1 16 = .ok (.getfield 46, 3) := by decide +kernel
theorem d_R_dissentNow_19 : decode I_R_dissentNow.2.1 19 = .ok (.iload_n 1, 1) := by decide +kernel
theorem d_R_dissentNow_20 : decode I_R_dissentNow.2.1 20 = .ok (.aload_n 0, 1) := by decide +kernel
theorem d_R_dissentNow_21 : decode I_R_dissentNow.2.1 21 = .ok (.getfield 43, 3) := by decide +kernel
theorem d_R_dissentNow_24 : decode I_R_dissentNow.2.1 24 = .ok (.iload_n 1, 1) := by decide +kernel
theorem d_R_dissentNow_25 : decode I_R_dissentNow.2.1 25 = .ok (.iaload, 1) := by decide +kernel
theorem d_R_dissentNow_26 : decode I_R_dissentNow.2.1 26 = .ok (.iastore, 1) := by decide +kernel
theorem d_R_dissentNow_27 : decode I_R_dissentNow.2.1 27 = .ok (.iinc 1 1, 3) := by decide +kernel
theorem d_R_dissentNow_30 : decode I_R_dissentNow.2.1 30 = .ok (.goto (-21), 3) := by decide +kernel
theorem d_R_dissentNow_33 : decode I_R_dissentNow.2.1 33 = .ok (.aload_n 0, 1) := by decide +kernel
theorem d_R_dissentNow_34 : decode I_R_dissentNow.2.1 34 = .ok (.iconst 1, 1) := by decide +kernel
theorem d_R_dissentNow_35 : decode I_R_dissentNow.2.1 35 = .ok (.bipush 29, 2) := by decide +kernel
theorem d_R_dissentNow_37 : decode I_R_dissentNow.2.1 37 = .ok (.invokevirtual 179, 3) := by decide +kernel
theorem d_R_dissentNow_40 : decode I_R_dissentNow.2.1 40 = .ok (.iconst 0, 1) := by decide +kernel
theorem d_R_dissentNow_41 : decode I_R_dissentNow.2.1 41 = .ok (.istore_n 1, 1) := by decide +kernel
theorem d_R_dissentNow_42 : decode I_R_dissentNow.2.1 42 = .ok (.iconst 0, 1) := by decide +kernel
theorem d_R_dissentNow_43 : decode I_R_dissentNow.2.1 43 = .ok (.istore_n 2, 1) := by decide +kernel
theorem d_R_dissentNow_44 : decode I_R_dissentNow.2.1 44 = .ok (.iload_n 2, 1) := by decide +kernel
theorem d_R_dissentNow_45 : decode I_R_dissentNow.2.1 45 = .ok (.bipush 30, 2) := by decide +kernel
theorem d_R_dissentNow_47 : decode I_R_dissentNow.2.1 47 = .ok (.if_icmp .ge 34, 3) := by decide +kernel
theorem d_R_dissentNow_50 : decode I_R_dissentNow.2.1 50 = .ok (.iload_n 1, 1) := by decide +kernel
theorem d_R_dissentNow_51 : decode I_R_dissentNow.2.1 51 = .ok (.aload_n 0, 1) := by decide +kernel
theorem d_R_dissentNow_52 : decode I_R_dissentNow.2.1 52 = .ok (.getfield 46, 3) := by decide +kernel
theorem d_R_dissentNow_55 : decode I_R_dissentNow.2.1 55 = .ok (.iload_n 2, 1) := by decide +kernel
theorem d_R_dissentNow_56 : decode I_R_dissentNow.2.1 56 = .ok (.iaload, 1) := by decide +kernel
theorem d_R_dissentNow_57 : decode I_R_dissentNow.2.1 57 = .ok (.aload_n 0, 1) := by decide +kernel
theorem d_R_dissentNow_58 : decode I_R_dissentNow.2.1 58 = .ok (.getfield 43, 3) := by decide +kernel
theorem d_R_dissentNow_61 : decode I_R_dissentNow.2.1 61 = .ok (.iload_n 2, 1) := by decide +kernel
theorem d_R_dissentNow_62 : decode I_R_dissentNow.2.1 62 = .ok (.iaload, 1) := by decide +kernel
theorem d_R_dissentNow_63 : decode I_R_dissentNow.2.1 63 = .ok (.if_icmp .eq 9, 3) := by decide +kernel
theorem d_R_dissentNow_66 : decode I_R_dissentNow.2.1 66 = .ok (.iconst 1, 1) := by decide +kernel
theorem d_R_dissentNow_67 : decode I_R_dissentNow.2.1 67 = .ok (.iload_n 2, 1) := by decide +kernel
theorem d_R_dissentNow_68 : decode I_R_dissentNow.2.1 68 = .ok (.ishl, 1) := by decide +kernel
theorem d_R_dissentNow_69 : decode I_R_dissentNow.2.1 69 = .ok (.goto 4, 3) := by decide +kernel
theorem d_R_dissentNow_72 : decode I_R_dissentNow.2.1 72 = .ok (.iconst 0, 1) := by decide +kernel
theorem d_R_dissentNow_73 : decode I_R_dissentNow.2.1 73 = .ok (.ior, 1) := by decide +kernel
theorem d_R_dissentNow_74 : decode I_R_dissentNow.2.1 74 = .ok (.istore_n 1, 1) := by decide +kernel
theorem d_R_dissentNow_75 : decode I_R_dissentNow.2.1 75 = .ok (.iinc 2 1, 3) := by decide +kernel
theorem d_R_dissentNow_78 : decode I_R_dissentNow.2.1 78 = .ok (.goto (-34), 3) := by decide +kernel
theorem d_R_dissentNow_81 : decode I_R_dissentNow.2.1 81 = .ok (.iload_n 1, 1) := by decide +kernel
theorem d_R_dissentNow_82 : decode I_R_dissentNow.2.1 82 = .ok (.ireturn, 1) := by decide +kernel
theorem d_R_dissent_0 : decode I_R_dissent.2.1 0 = .ok (.aload_n 0, 1) := by decide +kernel
theorem d_R_dissent_1 : decode I_R_dissent.2.1 1 = .ok (.invokevirtual 210, 3) := by decide +kernel
theorem d_R_dissent_4 : decode I_R_dissent.2.1 4 = .ok (.ireturn, 1) := by decide +kernel
theorem d_R_changesNow_0 : decode I_R_changesNow.2.1 0 = .ok (.aload_n 0, 1) := by decide +kernel
theorem d_R_changesNow_1 : decode I_R_changesNow.2.1 1 = .ok (.iconst 0, 1) := by decide +kernel
theorem d_R_changesNow_2 : decode I_R_changesNow.2.1 2 = .ok (.bipush 29, 2) := by decide +kernel
theorem d_R_changesNow_4 : decode I_R_changesNow.2.1 4 = .ok (.invokevirtual 179, 3) := by decide +kernel
theorem d_R_changesNow_7 : decode I_R_changesNow.2.1 7 = .ok (.iconst 0, 1) := by decide +kernel
theorem d_R_changesNow_8 : decode I_R_changesNow.2.1 8 = .ok (.istore_n 1, 1) := by decide +kernel
theorem d_R_changesNow_9 : decode I_R_changesNow.2.1 9 = .ok (.iconst 0, 1) := by decide +kernel
theorem d_R_changesNow_10 : decode I_R_changesNow.2.1 10 = .ok (.istore_n 2, 1) := by decide +kernel
theorem d_R_changesNow_11 : decode I_R_changesNow.2.1 11 = .ok (.iload_n 2, 1) := by decide +kernel
theorem d_R_changesNow_12 : decode I_R_changesNow.2.1 12 = .ok (.bipush 30, 2) := by decide +kernel
theorem d_R_changesNow_14 : decode I_R_changesNow.2.1 14 = .ok (.if_icmp .ge 42, 3) := by decide +kernel
theorem d_R_changesNow_17 : decode I_R_changesNow.2.1 17 = .ok (.iload_n 1, 1) := by decide +kernel
theorem d_R_changesNow_18 : decode I_R_changesNow.2.1 18 = .ok (.aload_n 0, 1) := by decide +kernel
theorem d_R_changesNow_19 : decode I_R_changesNow.2.1 19 = .ok (.getfield 43, 3) := by decide +kernel
theorem d_R_changesNow_22 : decode I_R_changesNow.2.1 22 = .ok (.iload_n 2, 1) := by decide +kernel
theorem d_R_changesNow_23 : decode I_R_changesNow.2.1 23 = .ok (.iaload, 1) := by decide +kernel
theorem d_R_changesNow_24 : decode I_R_changesNow.2.1 24 = .ok (.iload_n 2, 1) := by decide +kernel
theorem d_R_changesNow_25 : decode I_R_changesNow.2.1 25 = .ok (.ifCond .ne 7, 3) := by decide +kernel
theorem d_R_changesNow_28 : decode I_R_changesNow.2.1 28 = .ok (.iconst (-1), 1) := by decide +kernel
theorem d_R_changesNow_29 : decode I_R_changesNow.2.1 29 = .ok (.goto 11, 3) := by decide +kernel
theorem d_R_changesNow_32 : decode I_R_changesNow.2.1 32 = .ok (.aload_n 0, 1) := by decide +kernel
theorem d_R_changesNow_33 : decode I_R_changesNow.2.1 33 = .ok (.getfield 43, 3) := by decide +kernel
theorem d_R_changesNow_36 : decode I_R_changesNow.2.1 36 = .ok (.iload_n 2, 1) := by decide +kernel
theorem d_R_changesNow_37 : decode I_R_changesNow.2.1 37 = .ok (.iconst 1, 1) := by decide +kernel
theorem d_R_changesNow_38 : decode I_R_changesNow.2.1 38 = .ok (.isub, 1) := by decide +kernel
theorem d_R_changesNow_39 : decode I_R_changesNow.2.1 39 = .ok (.iaload, 1) := by decide +kernel
theorem d_R_changesNow_40 : decode I_R_changesNow.2.1 40 = .ok (.if_icmp .eq 7, 3) := by decide +kernel
theorem d_R_changesNow_43 : decode I_R_changesNow.2.1 43 = .ok (.iconst 1, 1) := by decide +kernel
theorem d_R_changesNow_44 : decode I_R_changesNow.2.1 44 = .ok (.goto 4, 3) := by decide +kernel
theorem d_R_changesNow_47 : decode I_R_changesNow.2.1 47 = .ok (.iconst 0, 1) := by decide +kernel
theorem d_R_changesNow_48 : decode I_R_changesNow.2.1 48 = .ok (.iadd, 1) := by decide +kernel
theorem d_R_changesNow_49 : decode I_R_changesNow.2.1 49 = .ok (.istore_n 1, 1) := by decide +kernel
theorem d_R_changesNow_50 : decode I_R_changesNow.2.1 50 = .ok (.iinc 2 1, 3) := by decide +kernel
theorem d_R_changesNow_53 : decode I_R_changesNow.2.1 53 = .ok (.goto (-42), 3) := by decide +kernel
theorem d_R_changesNow_56 : decode I_R_changesNow.2.1 56 = .ok (.iload_n 1, 1) := by decide +kernel
theorem d_R_changesNow_57 : decode I_R_changesNow.2.1 57 = .ok (.ireturn, 1) := by decide +kernel
theorem d_R_changes_0 : decode I_R_changes.2.1 0 = .ok (.aload_n 0, 1) := by decide +kernel
theorem d_R_changes_1 : decode I_R_changes.2.1 1 = .ok (.invokevirtual 213, 3) := by decide +kernel
theorem d_R_changes_4 : decode I_R_changes.2.1 4 = .ok (.ireturn, 1) := by decide +kernel
theorem d_R_wins_0 : decode I_R_wins.2.1 0 = .ok (.aload_n 0, 1) := by decide +kernel
theorem d_R_wins_1 : decode I_R_wins.2.1 1 = .ok (.invokevirtual 172, 3) := by decide +kernel
theorem d_R_wins_4 : decode I_R_wins.2.1 4 = .ok (.iload_n 3, 1) := by decide +kernel
theorem d_R_wins_5 : decode I_R_wins.2.1 5 = .ok (.iconst (-1), 1) := by decide +kernel
theorem d_R_wins_6 : decode I_R_wins.2.1 6 = .ok (.if_icmp .eq 14, 3) := by decide +kernel
theorem d_R_wins_9 : decode I_R_wins.2.1 9 = .ok (.aload_n 0, 1) := by decide +kernel
theorem d_R_wins_10 : decode I_R_wins.2.1 10 = .ok (.iload_n 3, 1) := by decide +kernel
theorem d_R_wins_11 : decode I_R_wins.2.1 11 = .ok (.iconst 3, 1) := by decide +kernel
theorem d_R_wins_12 : decode I_R_wins.2.1 12 = .ok (.idiv, 1) := by decide +kernel
theorem d_R_wins_13 : decode I_R_wins.2.1 13 = .ok (.iload_n 1, 1) := by decide +kernel
theorem d_R_wins_14 : decode I_R_wins.2.1 14 = .ok (.iload_n 3, 1) := by decide +kernel
theorem d_R_wins_15 : decode I_R_wins.2.1 15 = .ok (.iconst 3, 1) := by decide +kernel
theorem d_R_wins_16 : decode I_R_wins.2.1 16 = .ok (.irem, 1) := by decide +kernel
theorem d_R_wins_17 : decode I_R_wins.2.1 17 = .ok (.invokevirtual 216, 3) := by decide +kernel
theorem d_R_wins_20 : decode I_R_wins.2.1 20 = .ok (.iload 4, 2) := by decide +kernel
theorem d_R_wins_22 : decode I_R_wins.2.1 22 = .ok (.iconst (-1), 1) := by decide +kernel
theorem d_R_wins_23 : decode I_R_wins.2.1 23 = .ok (.if_icmp .eq 16, 3) := by decide +kernel
theorem d_R_wins_26 : decode I_R_wins.2.1 26 = .ok (.aload_n 0, 1) := by decide +kernel
theorem d_R_wins_27 : decode I_R_wins.2.1 27 = .ok (.iload 4, 2) := by decide +kernel
theorem d_R_wins_29 : decode I_R_wins.2.1 29 = .ok (.iconst 3, 1) := by decide +kernel
theorem d_R_wins_30 : decode I_R_wins.2.1 30 = .ok (.idiv, 1) := by decide +kernel
theorem d_R_wins_31 : decode I_R_wins.2.1 31 = .ok (.iload_n 1, 1) := by decide +kernel
theorem d_R_wins_32 : decode I_R_wins.2.1 32 = .ok (.iload 4, 2) := by decide +kernel
theorem d_R_wins_34 : decode I_R_wins.2.1 34 = .ok (.iconst 3, 1) := by decide +kernel
theorem d_R_wins_35 : decode I_R_wins.2.1 35 = .ok (.irem, 1) := by decide +kernel
theorem d_R_wins_36 : decode I_R_wins.2.1 36 = .ok (.invokevirtual 216, 3) := by decide +kernel
theorem d_R_wins_39 : decode I_R_wins.2.1 39 = .ok (.iload 5, 2) := by decide +kernel
theorem d_R_wins_41 : decode I_R_wins.2.1 41 = .ok (.iconst (-1), 1) := by decide +kernel
theorem d_R_wins_42 : decode I_R_wins.2.1 42 = .ok (.if_icmp .eq 16, 3) := by decide +kernel
theorem d_R_wins_45 : decode I_R_wins.2.1 45 = .ok (.aload_n 0, 1) := by decide +kernel
theorem d_R_wins_46 : decode I_R_wins.2.1 46 = .ok (.iload 5, 2) := by decide +kernel
theorem d_R_wins_48 : decode I_R_wins.2.1 48 = .ok (.iconst 3, 1) := by decide +kernel
theorem d_R_wins_49 : decode I_R_wins.2.1 49 = .ok (.idiv, 1) := by decide +kernel
theorem d_R_wins_50 : decode I_R_wins.2.1 50 = .ok (.iload_n 1, 1) := by decide +kernel
theorem d_R_wins_51 : decode I_R_wins.2.1 51 = .ok (.iload 5, 2) := by decide +kernel
theorem d_R_wins_53 : decode I_R_wins.2.1 53 = .ok (.iconst 3, 1) := by decide +kernel
theorem d_R_wins_54 : decode I_R_wins.2.1 54 = .ok (.irem, 1) := by decide +kernel
theorem d_R_wins_55 : decode I_R_wins.2.1 55 = .ok (.invokevirtual 216, 3) := by decide +kernel
theorem d_R_wins_58 : decode I_R_wins.2.1 58 = .ok (.aload_n 0, 1) := by decide +kernel
theorem d_R_wins_59 : decode I_R_wins.2.1 59 = .ok (.iconst 0, 1) := by decide +kernel
theorem d_R_wins_60 : decode I_R_wins.2.1 60 = .ok (.iload_n 2, 1) := by decide +kernel
theorem d_R_wins_61 : decode I_R_wins.2.1 61 = .ok (.invokevirtual 175, 3) := by decide +kernel
theorem d_R_wins_64 : decode I_R_wins.2.1 64 = .ok (.aload_n 0, 1) := by decide +kernel
theorem d_R_wins_65 : decode I_R_wins.2.1 65 = .ok (.getfield 49, 3) := by decide +kernel
theorem d_R_wins_68 : decode I_R_wins.2.1 68 = .ok (.iconst 0, 1) := by decide +kernel
theorem d_R_wins_69 : decode I_R_wins.2.1 69 = .ok (.iload_n 3, 1) := by decide +kernel
theorem d_R_wins_70 : decode I_R_wins.2.1 70 = .ok (.iastore, 1) := by decide +kernel
theorem d_R_wins_71 : decode I_R_wins.2.1 71 = .ok (.aload_n 0, 1) := by decide +kernel
theorem d_R_wins_72 : decode I_R_wins.2.1 72 = .ok (.getfield 49, 3) := by decide +kernel
theorem d_R_wins_75 : decode I_R_wins.2.1 75 = .ok (.iconst 1, 1) := by decide +kernel
theorem d_R_wins_76 : decode I_R_wins.2.1 76 = .ok (.iload 4, 2) := by decide +kernel
theorem d_R_wins_78 : decode I_R_wins.2.1 78 = .ok (.iastore, 1) := by decide +kernel
theorem d_R_wins_79 : decode I_R_wins.2.1 79 = .ok (.aload_n 0, 1) := by decide +kernel
theorem d_R_wins_80 : decode I_R_wins.2.1 80 = .ok (.getfield 49, 3) := by decide +kernel
theorem d_R_wins_83 : decode I_R_wins.2.1 83 = .ok (.iconst 2, 1) := by decide +kernel
theorem d_R_wins_84 : decode I_R_wins.2.1 84 = .ok (.iload 5, 2) := by decide +kernel
theorem d_R_wins_86 : decode I_R_wins.2.1 86 = .ok (.iastore, 1) := by decide +kernel
theorem d_R_wins_87 : decode I_R_wins.2.1 87 = .ok (.aload_n 0, 1) := by decide +kernel
theorem d_R_wins_88 : decode I_R_wins.2.1 88 = .ok (.getfield 43, 3) := by decide +kernel
theorem d_R_wins_91 : decode I_R_wins.2.1 91 = .ok (.iload_n 2, 1) := by decide +kernel
theorem d_R_wins_92 : decode I_R_wins.2.1 92 = .ok (.iaload, 1) := by decide +kernel
theorem d_R_wins_93 : decode I_R_wins.2.1 93 = .ok (.iload_n 1, 1) := by decide +kernel
theorem d_R_wins_94 : decode I_R_wins.2.1 94 = .ok (.if_icmp .ne 7, 3) := by decide +kernel
theorem d_R_wins_97 : decode I_R_wins.2.1 97 = .ok (.iconst 1, 1) := by decide +kernel
theorem d_R_wins_98 : decode I_R_wins.2.1 98 = .ok (.goto 4, 3) := by decide +kernel
theorem d_R_wins_101 : decode I_R_wins.2.1 101 = .ok (.iconst 0, 1) := by decide +kernel
theorem d_R_wins_102 : decode I_R_wins.2.1 102 = .ok (.ireturn, 1) := by decide +kernel
theorem d_R_suitBy_0 : decode I_R_suitBy.2.1 0 = .ok (.aload_n 0, 1) := by decide +kernel
theorem d_R_suitBy_1 : decode I_R_suitBy.2.1 1 = .ok (.invokevirtual 109, 3) := by decide +kernel
theorem d_R_suitBy_4 : decode I_R_suitBy.2.1 4 = .ok (.iconst 3, 1) := by decide +kernel
theorem d_R_suitBy_5 : decode I_R_suitBy.2.1 5 = .ok (.iload_n 2, 1) := by decide +kernel
theorem d_R_suitBy_6 : decode I_R_suitBy.2.1 6 = .ok (.imul, 1) := by decide +kernel
theorem d_R_suitBy_7 : decode I_R_suitBy.2.1 7 = .ok (.iconst 3, 1) := by decide +kernel
theorem d_R_suitBy_8 : decode I_R_suitBy.2.1 8 = .ok (.iadd, 1) := by decide +kernel
theorem d_R_suitBy_9 : decode I_R_suitBy.2.1 9 = .ok (.istore_n 3, 1) := by decide +kernel
theorem d_R_suitBy_10 : decode I_R_suitBy.2.1 10 = .ok (.aload_n 0, 1) := by decide +kernel
theorem d_R_suitBy_11 : decode I_R_suitBy.2.1 11 = .ok (.iload_n 1, 1) := by decide +kernel
theorem d_R_suitBy_12 : decode I_R_suitBy.2.1 12 = .ok (.iload_n 2, 1) := by decide +kernel
theorem d_R_suitBy_13 : decode I_R_suitBy.2.1 13 = .ok (.iconst (-1), 1) := by decide +kernel
theorem d_R_suitBy_14 : decode I_R_suitBy.2.1 14 = .ok (.iconst (-1), 1) := by decide +kernel
theorem d_R_suitBy_15 : decode I_R_suitBy.2.1 15 = .ok (.iconst (-1), 1) := by decide +kernel
theorem d_R_suitBy_16 : decode I_R_suitBy.2.1 16 = .ok (.invokevirtual 220, 3) := by decide +kernel
theorem d_R_suitBy_19 : decode I_R_suitBy.2.1 19 = .ok (.ifCond .eq 5, 3) := by decide +kernel
theorem d_R_suitBy_22 : decode I_R_suitBy.2.1 22 = .ok (.iconst 0, 1) := by decide +kernel
theorem d_R_suitBy_23 : decode I_R_suitBy.2.1 23 = .ok (.ireturn, 1) := by decide +kernel
theorem d_R_suitBy_24 : decode I_R_suitBy.2.1 24 = .ok (.iconst 0, 1) := by decide +kernel
theorem d_R_suitBy_25 : decode I_R_suitBy.2.1 25 = .ok (.istore 4, 2) := by decide +kernel
theorem d_R_suitBy_27 : decode I_R_suitBy.2.1 27 = .ok (.iload 4, 2) := by decide +kernel
theorem d_R_suitBy_29 : decode I_R_suitBy.2.1 29 = .ok (.iload_n 3, 1) := by decide +kernel
theorem d_R_suitBy_30 : decode I_R_suitBy.2.1 30 = .ok (.if_icmp .ge 24, 3) := by decide +kernel
theorem d_R_suitBy_33 : decode I_R_suitBy.2.1 33 = .ok (.aload_n 0, 1) := by decide +kernel
theorem d_R_suitBy_34 : decode I_R_suitBy.2.1 34 = .ok (.iload_n 1, 1) := by decide +kernel
theorem d_R_suitBy_35 : decode I_R_suitBy.2.1 35 = .ok (.iload_n 2, 1) := by decide +kernel
theorem d_R_suitBy_36 : decode I_R_suitBy.2.1 36 = .ok (.iload 4, 2) := by decide +kernel
theorem d_R_suitBy_38 : decode I_R_suitBy.2.1 38 = .ok (.iconst (-1), 1) := by decide +kernel
theorem d_R_suitBy_39 : decode I_R_suitBy.2.1 39 = .ok (.iconst (-1), 1) := by decide +kernel
theorem d_R_suitBy_40 : decode I_R_suitBy.2.1 40 = .ok (.invokevirtual 220, 3) := by decide +kernel
theorem d_R_suitBy_43 : decode I_R_suitBy.2.1 43 = .ok (.ifCond .eq 5, 3) := by decide +kernel
theorem d_R_suitBy_46 : decode I_R_suitBy.2.1 46 = .ok (.iconst 1, 1) := by decide +kernel
theorem d_R_suitBy_47 : decode I_R_suitBy.2.1 47 = .ok (.ireturn, 1) := by decide +kernel
theorem d_R_suitBy_48 : decode I_R_suitBy.2.1 48 = .ok (.iinc 4 1, 3) := by decide +kernel
theorem d_R_suitBy_51 : decode I_R_suitBy.2.1 51 = .ok (.goto (-24), 3) := by decide +kernel
theorem d_R_suitBy_54 : decode I_R_suitBy.2.1 54 = .ok (.iconst 0, 1) := by decide +kernel
theorem d_R_suitBy_55 : decode I_R_suitBy.2.1 55 = .ok (.istore 4, 2) := by decide +kernel
theorem d_R_suitBy_57 : decode I_R_suitBy.2.1 57 = .ok (.iload 4, 2) := by decide +kernel
theorem d_R_suitBy_59 : decode I_R_suitBy.2.1 59 = .ok (.iload_n 3, 1) := by decide +kernel
theorem d_R_suitBy_60 : decode I_R_suitBy.2.1 60 = .ok (.if_icmp .ge 41, 3) := by decide +kernel
theorem d_R_suitBy_63 : decode I_R_suitBy.2.1 63 = .ok (.iload 4, 2) := by decide +kernel
theorem d_R_suitBy_65 : decode I_R_suitBy.2.1 65 = .ok (.istore 5, 2) := by decide +kernel
theorem d_R_suitBy_67 : decode I_R_suitBy.2.1 67 = .ok (.iload 5, 2) := by decide +kernel
theorem d_R_suitBy_69 : decode I_R_suitBy.2.1 69 = .ok (.iload_n 3, 1) := by decide +kernel
theorem d_R_suitBy_70 : decode I_R_suitBy.2.1 70 = .ok (.if_icmp .ge 25, 3) := by decide +kernel
theorem d_R_suitBy_73 : decode I_R_suitBy.2.1 73 = .ok (.aload_n 0, 1) := by decide +kernel
theorem d_R_suitBy_74 : decode I_R_suitBy.2.1 74 = .ok (.iload_n 1, 1) := by decide +kernel
theorem d_R_suitBy_75 : decode I_R_suitBy.2.1 75 = .ok (.iload_n 2, 1) := by decide +kernel
theorem d_R_suitBy_76 : decode I_R_suitBy.2.1 76 = .ok (.iload 4, 2) := by decide +kernel
theorem d_R_suitBy_78 : decode I_R_suitBy.2.1 78 = .ok (.iload 5, 2) := by decide +kernel
theorem d_R_suitBy_80 : decode I_R_suitBy.2.1 80 = .ok (.iconst (-1), 1) := by decide +kernel
theorem d_R_suitBy_81 : decode I_R_suitBy.2.1 81 = .ok (.invokevirtual 220, 3) := by decide +kernel
theorem d_R_suitBy_84 : decode I_R_suitBy.2.1 84 = .ok (.ifCond .eq 5, 3) := by decide +kernel
theorem d_R_suitBy_87 : decode I_R_suitBy.2.1 87 = .ok (.iconst 2, 1) := by decide +kernel
theorem d_R_suitBy_88 : decode I_R_suitBy.2.1 88 = .ok (.ireturn, 1) := by decide +kernel
theorem d_R_suitBy_89 : decode I_R_suitBy.2.1 89 = .ok (.iinc 5 1, 3) := by decide +kernel
theorem d_R_suitBy_92 : decode I_R_suitBy.2.1 92 = .ok (.goto (-25), 3) := by decide +kernel
theorem d_R_suitBy_95 : decode I_R_suitBy.2.1 95 = .ok (.iinc 4 1, 3) := by decide +kernel
theorem d_R_suitBy_98 : decode I_R_suitBy.2.1 98 = .ok (.goto (-41), 3) := by decide +kernel
theorem d_R_suitBy_101 : decode I_R_suitBy.2.1 101 = .ok (.iconst 0, 1) := by decide +kernel
theorem d_R_suitBy_102 : decode I_R_suitBy.2.1 102 = .ok (.istore 4, 2) := by decide +kernel
theorem d_R_suitBy_104 : decode I_R_suitBy.2.1 104 = .ok (.iload 4, 2) := by decide +kernel
theorem d_R_suitBy_106 : decode I_R_suitBy.2.1 106 = .ok (.iload_n 3, 1) := by decide +kernel
theorem d_R_suitBy_107 : decode I_R_suitBy.2.1 107 = .ok (.if_icmp .ge 58, 3) := by decide +kernel
theorem d_R_suitBy_110 : decode I_R_suitBy.2.1 110 = .ok (.iload 4, 2) := by decide +kernel
theorem d_R_suitBy_112 : decode I_R_suitBy.2.1 112 = .ok (.istore 5, 2) := by decide +kernel
theorem d_R_suitBy_114 : decode I_R_suitBy.2.1 114 = .ok (.iload 5, 2) := by decide +kernel
theorem d_R_suitBy_116 : decode I_R_suitBy.2.1 116 = .ok (.iload_n 3, 1) := by decide +kernel
theorem d_R_suitBy_117 : decode I_R_suitBy.2.1 117 = .ok (.if_icmp .ge 42, 3) := by decide +kernel
theorem d_R_suitBy_120 : decode I_R_suitBy.2.1 120 = .ok (.iload 5, 2) := by decide +kernel
theorem d_R_suitBy_122 : decode I_R_suitBy.2.1 122 = .ok (.istore 6, 2) := by decide +kernel
theorem d_R_suitBy_124 : decode I_R_suitBy.2.1 124 = .ok (.iload 6, 2) := by decide +kernel
theorem d_R_suitBy_126 : decode I_R_suitBy.2.1 126 = .ok (.iload_n 3, 1) := by decide +kernel
theorem d_R_suitBy_127 : decode I_R_suitBy.2.1 127 = .ok (.if_icmp .ge 26, 3) := by decide +kernel
theorem d_R_suitBy_130 : decode I_R_suitBy.2.1 130 = .ok (.aload_n 0, 1) := by decide +kernel
theorem d_R_suitBy_131 : decode I_R_suitBy.2.1 131 = .ok (.iload_n 1, 1) := by decide +kernel
theorem d_R_suitBy_132 : decode I_R_suitBy.2.1 132 = .ok (.iload_n 2, 1) := by decide +kernel
theorem d_R_suitBy_133 : decode I_R_suitBy.2.1 133 = .ok (.iload 4, 2) := by decide +kernel
theorem d_R_suitBy_135 : decode I_R_suitBy.2.1 135 = .ok (.iload 5, 2) := by decide +kernel
theorem d_R_suitBy_137 : decode I_R_suitBy.2.1 137 = .ok (.iload 6, 2) := by decide +kernel
theorem d_R_suitBy_139 : decode I_R_suitBy.2.1 139 = .ok (.invokevirtual 220, 3) := by decide +kernel
theorem d_R_suitBy_142 : decode I_R_suitBy.2.1 142 = .ok (.ifCond .eq 5, 3) := by decide +kernel
theorem d_R_suitBy_145 : decode I_R_suitBy.2.1 145 = .ok (.iconst 3, 1) := by decide +kernel
theorem d_R_suitBy_146 : decode I_R_suitBy.2.1 146 = .ok (.ireturn, 1) := by decide +kernel
theorem d_R_suitBy_147 : decode I_R_suitBy.2.1 147 = .ok (.iinc 6 1, 3) := by decide +kernel
theorem d_R_suitBy_150 : decode I_R_suitBy.2.1 150 = .ok (.goto (-26), 3) := by decide +kernel
theorem d_R_suitBy_153 : decode I_R_suitBy.2.1 153 = .ok (.iinc 5 1, 3) := by decide +kernel
theorem d_R_suitBy_156 : decode I_R_suitBy.2.1 156 = .ok (.goto (-42), 3) := by decide +kernel
theorem d_R_suitBy_159 : decode I_R_suitBy.2.1 159 = .ok (.iinc 4 1, 3) := by decide +kernel
theorem d_R_suitBy_162 : decode I_R_suitBy.2.1 162 = .ok (.goto (-58), 3) := by decide +kernel
theorem d_R_suitBy_165 : decode I_R_suitBy.2.1 165 = .ok (.iconst (-1), 1) := by decide +kernel
theorem d_R_suitBy_166 : decode I_R_suitBy.2.1 166 = .ok (.ireturn, 1) := by decide +kernel
theorem d_R_suitOf_0 : decode I_R_suitOf.2.1 0 = .ok (.aload_n 0, 1) := by decide +kernel
theorem d_R_suitOf_1 : decode I_R_suitOf.2.1 1 = .ok (.iload_n 1, 1) := by decide +kernel
theorem d_R_suitOf_2 : decode I_R_suitOf.2.1 2 = .ok (.iload_n 2, 1) := by decide +kernel
theorem d_R_suitOf_3 : decode I_R_suitOf.2.1 3 = .ok (.invokevirtual 224, 3) := by decide +kernel
theorem d_R_suitOf_6 : decode I_R_suitOf.2.1 6 = .ok (.istore 4, 2) := by decide +kernel
theorem d_R_suitOf_8 : decode I_R_suitOf.2.1 8 = .ok (.iload_n 3, 1) := by decide +kernel
theorem d_R_suitOf_9 : decode I_R_suitOf.2.1 9 = .ok (.iconst (-1), 1) := by decide +kernel
theorem d_R_suitOf_10 : decode I_R_suitOf.2.1 10 = .ok (.if_icmp .ne 8, 3) := by decide +kernel
theorem d_R_suitOf_13 : decode I_R_suitOf.2.1 13 = .ok (.iload 4, 2) := by decide +kernel
theorem d_R_suitOf_15 : decode I_R_suitOf.2.1 15 = .ok (.goto 19, 3) := by decide +kernel
theorem d_R_suitOf_18 : decode I_R_suitOf.2.1 18 = .ok (.iload_n 3, 1) := by decide +kernel
theorem d_R_suitOf_19 : decode I_R_suitOf.2.1 19 = .ok (.iload 4, 2) := by decide +kernel
theorem d_R_suitOf_21 : decode I_R_suitOf.2.1 21 = .ok (.if_icmp .ge 12, 3) := by decide +kernel
theorem d_R_suitOf_24 : decode I_R_suitOf.2.1 24 = .ok (.aload_n 0, 1) := by decide +kernel
theorem d_R_suitOf_25 : decode I_R_suitOf.2.1 25 = .ok (.getfield 49, 3) := by decide +kernel
theorem d_R_suitOf_28 : decode I_R_suitOf.2.1 28 = .ok (.iload_n 3, 1) := by decide +kernel
theorem d_R_suitOf_29 : decode I_R_suitOf.2.1 29 = .ok (.iaload, 1) := by decide +kernel
theorem d_R_suitOf_30 : decode I_R_suitOf.2.1 30 = .ok (.goto 4, 3) := by decide +kernel
theorem d_R_suitOf_33 : decode I_R_suitOf.2.1 33 = .ok (.iconst (-1), 1) := by decide +kernel
theorem d_R_suitOf_34 : decode I_R_suitOf.2.1 34 = .ok (.ireturn, 1) := by decide +kernel
theorem d_R_suit_0 : decode I_R_suit.2.1 0 = .ok (.aload_n 0, 1) := by decide +kernel
theorem d_R_suit_1 : decode I_R_suit.2.1 1 = .ok (.iload_n 1, 1) := by decide +kernel
theorem d_R_suit_2 : decode I_R_suit.2.1 2 = .ok (.invokevirtual 112, 3) := by decide +kernel
theorem d_R_suit_5 : decode I_R_suit.2.1 5 = .ok (.ifCond .eq 32, 3) := by decide +kernel
theorem d_R_suit_8 : decode I_R_suit.2.1 8 = .ok (.iload_n 2, 1) := by decide +kernel
theorem d_R_suit_9 : decode I_R_suit.2.1 9 = .ok (.iconst 0, 1) := by decide +kernel
theorem d_R_suit_10 : decode I_R_suit.2.1 10 = .ok (.bipush 9, 2) := by decide +kernel
theorem d_R_suit_12 : decode I_R_suit.2.1 12 = .ok (.invokestatic 95, 3) := by decide +kernel
theorem d_R_suit_15 : decode I_R_suit.2.1 15 = .ok (.ifCond .eq 22, 3) := by decide +kernel
theorem d_R_suit_18 : decode I_R_suit.2.1 18 = .ok (.iload_n 3, 1) := by decide +kernel
theorem d_R_suit_19 : decode I_R_suit.2.1 19 = .ok (.iconst (-1), 1) := by decide +kernel
theorem d_R_suit_20 : decode I_R_suit.2.1 20 = .ok (.iconst 2, 1) := by decide +kernel
theorem d_R_suit_21 : decode I_R_suit.2.1 21 = .ok (.invokestatic 95, 3) := by decide +kernel
theorem d_R_suit_24 : decode I_R_suit.2.1 24 = .ok (.ifCond .eq 13, 3) := by decide +kernel
theorem d_R_suit_27 : decode I_R_suit.2.1 27 = .ok (.aload_n 0, 1) := by decide +kernel
theorem d_R_suit_28 : decode I_R_suit.2.1 28 = .ok (.iload_n 1, 1) := by decide +kernel
theorem d_R_suit_29 : decode I_R_suit.2.1 29 = .ok (.iload_n 2, 1) := by decide +kernel
theorem d_R_suit_30 : decode I_R_suit.2.1 30 = .ok (.iload_n 3, 1) := by decide +kernel
theorem d_R_suit_31 : decode I_R_suit.2.1 31 = .ok (.invokevirtual 227, 3) := by decide +kernel
theorem d_R_suit_34 : decode I_R_suit.2.1 34 = .ok (.goto 5, 3) := by decide +kernel
theorem d_R_suit_37 : decode I_R_suit.2.1 37 = .ok (.bipush (-2), 2) := by decide +kernel
theorem d_R_suit_39 : decode I_R_suit.2.1 39 = .ok (.ireturn, 1) := by decide +kernel
theorem d_R_playsBy_0 : decode I_R_playsBy.2.1 0 = .ok (.iconst 1, 1) := by decide +kernel
theorem d_R_playsBy_1 : decode I_R_playsBy.2.1 1 = .ok (.iconst 2, 1) := by decide +kernel
theorem d_R_playsBy_2 : decode I_R_playsBy.2.1 2 = .ok (.iload_n 1, 1) := by decide +kernel
theorem d_R_playsBy_3 : decode I_R_playsBy.2.1 3 = .ok (.imul, 1) := by decide +kernel
theorem d_R_playsBy_4 : decode I_R_playsBy.2.1 4 = .ok (.ishl, 1) := by decide +kernel
theorem d_R_playsBy_5 : decode I_R_playsBy.2.1 5 = .ok (.istore_n 3, 1) := by decide +kernel
theorem d_R_playsBy_6 : decode I_R_playsBy.2.1 6 = .ok (.iload_n 1, 1) := by decide +kernel
theorem d_R_playsBy_7 : decode I_R_playsBy.2.1 7 = .ok (.iconst 1, 1) := by decide +kernel
theorem d_R_playsBy_8 : decode I_R_playsBy.2.1 8 = .ok (.isub, 1) := by decide +kernel
theorem d_R_playsBy_9 : decode I_R_playsBy.2.1 9 = .ok (.istore 4, 2) := by decide +kernel
theorem d_R_playsBy_11 : decode I_R_playsBy.2.1 11 = .ok (.iload 4, 2) := by decide +kernel
theorem d_R_playsBy_13 : decode I_R_playsBy.2.1 13 = .ok (.ifCond .le 171, 3) := by decide +kernel
theorem d_R_playsBy_16 : decode I_R_playsBy.2.1 16 = .ok (.iload_n 3, 1) := by decide +kernel
theorem d_R_playsBy_17 : decode I_R_playsBy.2.1 17 = .ok (.iconst 4, 1) := by decide +kernel
theorem d_R_playsBy_18 : decode I_R_playsBy.2.1 18 = .ok (.idiv, 1) := by decide +kernel
theorem d_R_playsBy_19 : decode I_R_playsBy.2.1 19 = .ok (.istore_n 3, 1) := by decide +kernel
theorem d_R_playsBy_20 : decode I_R_playsBy.2.1 20 = .ok (.iconst 0, 1) := by decide +kernel
theorem d_R_playsBy_21 : decode I_R_playsBy.2.1 21 = .ok (.istore 5, 2) := by decide +kernel
theorem d_R_playsBy_23 : decode I_R_playsBy.2.1 23 = .ok (.iload 5, 2) := by decide +kernel
theorem d_R_playsBy_25 : decode I_R_playsBy.2.1 25 = .ok (.iload_n 3, 1) := by decide +kernel
theorem d_R_playsBy_26 : decode I_R_playsBy.2.1 26 = .ok (.if_icmp .ge 152, 3) := by decide +kernel
theorem d_R_playsBy_29 : decode I_R_playsBy.2.1 29 = .ok (.aload_n 0, 1) := by decide +kernel
theorem d_R_playsBy_30 : decode I_R_playsBy.2.1 30 = .ok (.getfield 52, 3) := by decide +kernel
theorem d_R_playsBy_33 : decode I_R_playsBy.2.1 33 = .ok (.iconst 4, 1) := by decide +kernel
theorem d_R_playsBy_34 : decode I_R_playsBy.2.1 34 = .ok (.iload 5, 2) := by decide +kernel
theorem d_R_playsBy_36 : decode I_R_playsBy.2.1 36 = .ok (.imul, 1) := by decide +kernel
theorem d_R_playsBy_37 : decode I_R_playsBy.2.1 37 = .ok (.baload, 1) := by decide +kernel
theorem d_R_playsBy_38 : decode I_R_playsBy.2.1 38 = .ok (.ifCond .ne 45, 3) := by decide +kernel
theorem d_R_playsBy_41 : decode I_R_playsBy.2.1 41 = .ok (.aload_n 0, 1) := by decide +kernel
theorem d_R_playsBy_42 : decode I_R_playsBy.2.1 42 = .ok (.getfield 52, 3) := by decide +kernel
theorem d_R_playsBy_45 : decode I_R_playsBy.2.1 45 = .ok (.iconst 4, 1) := by decide +kernel
theorem d_R_playsBy_46 : decode I_R_playsBy.2.1 46 = .ok (.iload 5, 2) := by decide +kernel
theorem d_R_playsBy_48 : decode I_R_playsBy.2.1 48 = .ok (.imul, 1) := by decide +kernel
theorem d_R_playsBy_49 : decode I_R_playsBy.2.1 49 = .ok (.iconst 1, 1) := by decide +kernel
theorem d_R_playsBy_50 : decode I_R_playsBy.2.1 50 = .ok (.iadd, 1) := by decide +kernel
theorem d_R_playsBy_51 : decode I_R_playsBy.2.1 51 = .ok (.baload, 1) := by decide +kernel
theorem d_R_playsBy_52 : decode I_R_playsBy.2.1 52 = .ok (.ifCond .ne 31, 3) := by decide +kernel
theorem d_R_playsBy_55 : decode I_R_playsBy.2.1 55 = .ok (.aload_n 0, 1) := by decide +kernel
theorem d_R_playsBy_56 : decode I_R_playsBy.2.1 56 = .ok (.getfield 52, 3) := by decide +kernel
theorem d_R_playsBy_59 : decode I_R_playsBy.2.1 59 = .ok (.iconst 4, 1) := by decide +kernel
theorem d_R_playsBy_60 : decode I_R_playsBy.2.1 60 = .ok (.iload 5, 2) := by decide +kernel
theorem d_R_playsBy_62 : decode I_R_playsBy.2.1 62 = .ok (.imul, 1) := by decide +kernel
theorem d_R_playsBy_63 : decode I_R_playsBy.2.1 63 = .ok (.iconst 2, 1) := by decide +kernel
theorem d_R_playsBy_64 : decode I_R_playsBy.2.1 64 = .ok (.iadd, 1) := by decide +kernel
theorem d_R_playsBy_65 : decode I_R_playsBy.2.1 65 = .ok (.baload, 1) := by decide +kernel
theorem d_R_playsBy_66 : decode I_R_playsBy.2.1 66 = .ok (.ifCond .ne 17, 3) := by decide +kernel
theorem d_R_playsBy_69 : decode I_R_playsBy.2.1 69 = .ok (.aload_n 0, 1) := by decide +kernel
theorem d_R_playsBy_70 : decode I_R_playsBy.2.1 70 = .ok (.getfield 52, 3) := by decide +kernel
theorem d_R_playsBy_73 : decode I_R_playsBy.2.1 73 = .ok (.iconst 4, 1) := by decide +kernel
theorem d_R_playsBy_74 : decode I_R_playsBy.2.1 74 = .ok (.iload 5, 2) := by decide +kernel
theorem d_R_playsBy_76 : decode I_R_playsBy.2.1 76 = .ok (.imul, 1) := by decide +kernel
theorem d_R_playsBy_77 : decode I_R_playsBy.2.1 77 = .ok (.iconst 3, 1) := by decide +kernel
theorem d_R_playsBy_78 : decode I_R_playsBy.2.1 78 = .ok (.iadd, 1) := by decide +kernel
theorem d_R_playsBy_79 : decode I_R_playsBy.2.1 79 = .ok (.baload, 1) := by decide +kernel
theorem d_R_playsBy_80 : decode I_R_playsBy.2.1 80 = .ok (.ifCond .eq 7, 3) := by decide +kernel
theorem d_R_playsBy_83 : decode I_R_playsBy.2.1 83 = .ok (.iconst 1, 1) := by decide +kernel
theorem d_R_playsBy_84 : decode I_R_playsBy.2.1 84 = .ok (.goto 4, 3) := by decide +kernel
theorem d_R_playsBy_87 : decode I_R_playsBy.2.1 87 = .ok (.iconst 0, 1) := by decide +kernel
theorem d_R_playsBy_88 : decode I_R_playsBy.2.1 88 = .ok (.istore 6, 2) := by decide +kernel
theorem d_R_playsBy_90 : decode I_R_playsBy.2.1 90 = .ok (.aload_n 0, 1) := by decide +kernel
theorem d_R_playsBy_91 : decode I_R_playsBy.2.1 91 = .ok (.getfield 52, 3) := by decide +kernel
theorem d_R_playsBy_94 : decode I_R_playsBy.2.1 94 = .ok (.iconst 4, 1) := by decide +kernel
theorem d_R_playsBy_95 : decode I_R_playsBy.2.1 95 = .ok (.iload 5, 2) := by decide +kernel
theorem d_R_playsBy_97 : decode I_R_playsBy.2.1 97 = .ok (.imul, 1) := by decide +kernel
theorem d_R_playsBy_98 : decode I_R_playsBy.2.1 98 = .ok (.baload, 1) := by decide +kernel
theorem d_R_playsBy_99 : decode I_R_playsBy.2.1 99 = .ok (.ifCond .eq 49, 3) := by decide +kernel
theorem d_R_playsBy_102 : decode I_R_playsBy.2.1 102 = .ok (.aload_n 0, 1) := by decide +kernel
theorem d_R_playsBy_103 : decode I_R_playsBy.2.1 103 = .ok (.getfield 52, 3) := by decide +kernel
theorem d_R_playsBy_106 : decode I_R_playsBy.2.1 106 = .ok (.iconst 4, 1) := by decide +kernel
theorem d_R_playsBy_107 : decode I_R_playsBy.2.1 107 = .ok (.iload 5, 2) := by decide +kernel
theorem d_R_playsBy_109 : decode I_R_playsBy.2.1 109 = .ok (.imul, 1) := by decide +kernel
theorem d_R_playsBy_110 : decode I_R_playsBy.2.1 110 = .ok (.iconst 1, 1) := by decide +kernel
theorem d_R_playsBy_111 : decode I_R_playsBy.2.1 111 = .ok (.iadd, 1) := by decide +kernel
theorem d_R_playsBy_112 : decode I_R_playsBy.2.1 112 = .ok (.baload, 1) := by decide +kernel
theorem d_R_playsBy_113 : decode I_R_playsBy.2.1 113 = .ok (.ifCond .eq 35, 3) := by decide +kernel
theorem d_R_playsBy_116 : decode I_R_playsBy.2.1 116 = .ok (.aload_n 0, 1) := by decide +kernel
theorem d_R_playsBy_117 : decode I_R_playsBy.2.1 117 = .ok (.getfield 52, 3) := by decide +kernel
theorem d_R_playsBy_120 : decode I_R_playsBy.2.1 120 = .ok (.iconst 4, 1) := by decide +kernel
theorem d_R_playsBy_121 : decode I_R_playsBy.2.1 121 = .ok (.iload 5, 2) := by decide +kernel
theorem d_R_playsBy_123 : decode I_R_playsBy.2.1 123 = .ok (.imul, 1) := by decide +kernel
theorem d_R_playsBy_124 : decode I_R_playsBy.2.1 124 = .ok (.iconst 2, 1) := by decide +kernel
theorem d_R_playsBy_125 : decode I_R_playsBy.2.1 125 = .ok (.iadd, 1) := by decide +kernel
theorem d_R_playsBy_126 : decode I_R_playsBy.2.1 126 = .ok (.baload, 1) := by decide +kernel
theorem d_R_playsBy_127 : decode I_R_playsBy.2.1 127 = .ok (.ifCond .eq 21, 3) := by decide +kernel
theorem d_R_playsBy_130 : decode I_R_playsBy.2.1 130 = .ok (.aload_n 0, 1) := by decide +kernel
theorem d_R_playsBy_131 : decode I_R_playsBy.2.1 131 = .ok (.getfield 52, 3) := by decide +kernel
theorem d_R_playsBy_134 : decode I_R_playsBy.2.1 134 = .ok (.iconst 4, 1) := by decide +kernel
theorem d_R_playsBy_135 : decode I_R_playsBy.2.1 135 = .ok (.iload 5, 2) := by decide +kernel
theorem d_R_playsBy_137 : decode I_R_playsBy.2.1 137 = .ok (.imul, 1) := by decide +kernel
theorem d_R_playsBy_138 : decode I_R_playsBy.2.1 138 = .ok (.iconst 3, 1) := by decide +kernel
theorem d_R_playsBy_139 : decode I_R_playsBy.2.1 139 = .ok (.iadd, 1) := by decide +kernel
theorem d_R_playsBy_140 : decode I_R_playsBy.2.1 140 = .ok (.baload, 1) := by decide +kernel
theorem d_R_playsBy_141 : decode I_R_playsBy.2.1 141 = .ok (.ifCond .eq 7, 3) := by decide +kernel
theorem d_R_playsBy_144 : decode I_R_playsBy.2.1 144 = .ok (.iconst 1, 1) := by decide +kernel
theorem d_R_playsBy_145 : decode I_R_playsBy.2.1 145 = .ok (.goto 4, 3) := by decide +kernel
theorem d_R_playsBy_148 : decode I_R_playsBy.2.1 148 = .ok (.iconst 0, 1) := by decide +kernel
theorem d_R_playsBy_149 : decode I_R_playsBy.2.1 149 = .ok (.istore 7, 2) := by decide +kernel
theorem d_R_playsBy_151 : decode I_R_playsBy.2.1 151 = .ok (.aload_n 0, 1) := by decide +kernel
theorem d_R_playsBy_152 : decode I_R_playsBy.2.1 152 = .ok (.getfield 52, 3) := by decide +kernel
theorem d_R_playsBy_155 : decode I_R_playsBy.2.1 155 = .ok (.iload 5, 2) := by decide +kernel
theorem d_R_playsBy_157 : decode I_R_playsBy.2.1 157 = .ok (.iload 4, 2) := by decide +kernel
theorem d_R_playsBy_159 : decode I_R_playsBy.2.1 159 = .ok (.iconst 2, 1) := by decide +kernel
theorem d_R_playsBy_160 : decode I_R_playsBy.2.1 160 = .ok (.irem, 1) := by decide +kernel
theorem d_R_playsBy_161 : decode I_R_playsBy.2.1 161 = .ok (.ifCond .ne 8, 3) := by decide +kernel
theorem d_R_playsBy_164 : decode I_R_playsBy.2.1 164 = .ok (.iload 6, 2) := by decide +kernel
theorem d_R_playsBy_166 : decode I_R_playsBy.2.1 166 = .ok (.goto 5, 3) := by decide +kernel
theorem d_R_playsBy_169 : decode I_R_playsBy.2.1 169 = .ok (.iload 7, 2) := by decide +kernel
theorem d_R_playsBy_171 : decode I_R_playsBy.2.1 171 = .ok (.bastore, 1) := by decide +kernel
theorem d_R_playsBy_172 : decode I_R_playsBy.2.1 172 = .ok (.iinc 5 1, 3) := by decide +kernel
theorem d_R_playsBy_175 : decode I_R_playsBy.2.1 175 = .ok (.goto (-152), 3) := by decide +kernel
theorem d_R_playsBy_178 : decode I_R_playsBy.2.1 178 = .ok (.iinc 4 (-1), 3) := by decide +kernel
theorem d_R_playsBy_181 : decode I_R_playsBy.2.1 181 = .ok (.goto (-170), 3) := by decide +kernel
theorem d_R_playsBy_184 : decode I_R_playsBy.2.1 184 = .ok (.iload_n 2, 1) := by decide +kernel
theorem d_R_playsBy_185 : decode I_R_playsBy.2.1 185 = .ok (.iconst 4, 1) := by decide +kernel
theorem d_R_playsBy_186 : decode I_R_playsBy.2.1 186 = .ok (.if_icmp .ge 12, 3) := by decide +kernel
theorem d_R_playsBy_189 : decode I_R_playsBy.2.1 189 = .ok (.aload_n 0, 1) := by decide +kernel
theorem d_R_playsBy_190 : decode I_R_playsBy.2.1 190 = .ok (.getfield 52, 3) := by decide +kernel
theorem d_R_playsBy_193 : decode I_R_playsBy.2.1 193 = .ok (.iload_n 2, 1) := by decide +kernel
theorem d_R_playsBy_194 : decode I_R_playsBy.2.1 194 = .ok (.baload, 1) := by decide +kernel
theorem d_R_playsBy_195 : decode I_R_playsBy.2.1 195 = .ok (.goto 44, 3) := by decide +kernel
theorem d_R_playsBy_198 : decode I_R_playsBy.2.1 198 = .ok (.aload_n 0, 1) := by decide +kernel
theorem d_R_playsBy_199 : decode I_R_playsBy.2.1 199 = .ok (.getfield 52, 3) := by decide +kernel
theorem d_R_playsBy_202 : decode I_R_playsBy.2.1 202 = .ok (.iconst 0, 1) := by decide +kernel
theorem d_R_playsBy_203 : decode I_R_playsBy.2.1 203 = .ok (.baload, 1) := by decide +kernel
theorem d_R_playsBy_204 : decode I_R_playsBy.2.1 204 = .ok (.ifCond .ne 30, 3) := by decide +kernel
theorem d_R_playsBy_207 : decode I_R_playsBy.2.1 207 = .ok (.aload_n 0, 1) := by decide +kernel
theorem d_R_playsBy_208 : decode I_R_playsBy.2.1 208 = .ok (.getfield 52, 3) := by decide +kernel
theorem d_R_playsBy_211 : decode I_R_playsBy.2.1 211 = .ok (.iconst 1, 1) := by decide +kernel
theorem d_R_playsBy_212 : decode I_R_playsBy.2.1 212 = .ok (.baload, 1) := by decide +kernel
theorem d_R_playsBy_213 : decode I_R_playsBy.2.1 213 = .ok (.ifCond .ne 21, 3) := by decide +kernel
theorem d_R_playsBy_216 : decode I_R_playsBy.2.1 216 = .ok (.aload_n 0, 1) := by decide +kernel
theorem d_R_playsBy_217 : decode I_R_playsBy.2.1 217 = .ok (.getfield 52, 3) := by decide +kernel
theorem d_R_playsBy_220 : decode I_R_playsBy.2.1 220 = .ok (.iconst 2, 1) := by decide +kernel
theorem d_R_playsBy_221 : decode I_R_playsBy.2.1 221 = .ok (.baload, 1) := by decide +kernel
theorem d_R_playsBy_222 : decode I_R_playsBy.2.1 222 = .ok (.ifCond .ne 12, 3) := by decide +kernel
theorem d_R_playsBy_225 : decode I_R_playsBy.2.1 225 = .ok (.aload_n 0, 1) := by decide +kernel
theorem d_R_playsBy_226 : decode I_R_playsBy.2.1 226 = .ok (.getfield 52, 3) := by decide +kernel
theorem d_R_playsBy_229 : decode I_R_playsBy.2.1 229 = .ok (.iconst 3, 1) := by decide +kernel
theorem d_R_playsBy_230 : decode I_R_playsBy.2.1 230 = .ok (.baload, 1) := by decide +kernel
theorem d_R_playsBy_231 : decode I_R_playsBy.2.1 231 = .ok (.ifCond .eq 7, 3) := by decide +kernel
theorem d_R_playsBy_234 : decode I_R_playsBy.2.1 234 = .ok (.iconst 1, 1) := by decide +kernel
theorem d_R_playsBy_235 : decode I_R_playsBy.2.1 235 = .ok (.goto 4, 3) := by decide +kernel
theorem d_R_playsBy_238 : decode I_R_playsBy.2.1 238 = .ok (.iconst 0, 1) := by decide +kernel
theorem d_R_playsBy_239 : decode I_R_playsBy.2.1 239 = .ok (.ireturn, 1) := by decide +kernel
theorem d_R_laysOuts_0 : decode I_R_laysOuts.2.1 0 = .ok (.aload_n 0, 1) := by decide +kernel
theorem d_R_laysOuts_1 : decode I_R_laysOuts.2.1 1 = .ok (.invokevirtual 109, 3) := by decide +kernel
theorem d_R_laysOuts_4 : decode I_R_laysOuts.2.1 4 = .ok (.iconst 0, 1) := by decide +kernel
theorem d_R_laysOuts_5 : decode I_R_laysOuts.2.1 5 = .ok (.istore 4, 2) := by decide +kernel
theorem d_R_laysOuts_7 : decode I_R_laysOuts.2.1 7 = .ok (.iload 4, 2) := by decide +kernel
theorem d_R_laysOuts_9 : decode I_R_laysOuts.2.1 9 = .ok (.iconst 1, 1) := by decide +kernel
theorem d_R_laysOuts_10 : decode I_R_laysOuts.2.1 10 = .ok (.iconst 2, 1) := by decide +kernel
theorem d_R_laysOuts_11 : decode I_R_laysOuts.2.1 11 = .ok (.iload_n 3, 1) := by decide +kernel
theorem d_R_laysOuts_12 : decode I_R_laysOuts.2.1 12 = .ok (.imul, 1) := by decide +kernel
theorem d_R_laysOuts_13 : decode I_R_laysOuts.2.1 13 = .ok (.ishl, 1) := by decide +kernel
theorem d_R_laysOuts_14 : decode I_R_laysOuts.2.1 14 = .ok (.if_icmp .ge 101, 3) := by decide +kernel
theorem d_R_laysOuts_17 : decode I_R_laysOuts.2.1 17 = .ok (.aload_n 0, 1) := by decide +kernel
theorem d_R_laysOuts_18 : decode I_R_laysOuts.2.1 18 = .ok (.invokevirtual 172, 3) := by decide +kernel
theorem d_R_laysOuts_21 : decode I_R_laysOuts.2.1 21 = .ok (.iconst 0, 1) := by decide +kernel
theorem d_R_laysOuts_22 : decode I_R_laysOuts.2.1 22 = .ok (.istore 5, 2) := by decide +kernel
theorem d_R_laysOuts_24 : decode I_R_laysOuts.2.1 24 = .ok (.iload 5, 2) := by decide +kernel
theorem d_R_laysOuts_26 : decode I_R_laysOuts.2.1 26 = .ok (.iload_n 3, 1) := by decide +kernel
theorem d_R_laysOuts_27 : decode I_R_laysOuts.2.1 27 = .ok (.if_icmp .ge 50, 3) := by decide +kernel
theorem d_R_laysOuts_30 : decode I_R_laysOuts.2.1 30 = .ok (.iload 4, 2) := by decide +kernel
theorem d_R_laysOuts_32 : decode I_R_laysOuts.2.1 32 = .ok (.iconst 2, 1) := by decide +kernel
theorem d_R_laysOuts_33 : decode I_R_laysOuts.2.1 33 = .ok (.iload_n 3, 1) := by decide +kernel
theorem d_R_laysOuts_34 : decode I_R_laysOuts.2.1 34 = .ok (.iconst 1, 1) := by decide +kernel
theorem d_R_laysOuts_35 : decode I_R_laysOuts.2.1 35 = .ok (.isub, 1) := by decide +kernel
theorem d_R_laysOuts_36 : decode I_R_laysOuts.2.1 36 = .ok (.iload 5, 2) := by decide +kernel
theorem d_R_laysOuts_38 : decode I_R_laysOuts.2.1 38 = .ok (.isub, 1) := by decide +kernel
theorem d_R_laysOuts_39 : decode I_R_laysOuts.2.1 39 = .ok (.imul, 1) := by decide +kernel
theorem d_R_laysOuts_40 : decode I_R_laysOuts.2.1 40 = .ok (.ishr, 1) := by decide +kernel
theorem d_R_laysOuts_41 : decode I_R_laysOuts.2.1 41 = .ok (.iconst 3, 1) := by decide +kernel
theorem d_R_laysOuts_42 : decode I_R_laysOuts.2.1 42 = .ok (.iand, 1) := by decide +kernel
theorem d_R_laysOuts_43 : decode I_R_laysOuts.2.1 43 = .ok (.istore 6, 2) := by decide +kernel
theorem d_R_laysOuts_45 : decode I_R_laysOuts.2.1 45 = .ok (.iload 6, 2) := by decide +kernel
theorem d_R_laysOuts_47 : decode I_R_laysOuts.2.1 47 = .ok (.iconst 3, 1) := by decide +kernel
theorem d_R_laysOuts_48 : decode I_R_laysOuts.2.1 48 = .ok (.if_icmp .ge 23, 3) := by decide +kernel
theorem d_R_laysOuts_51 : decode I_R_laysOuts.2.1 51 = .ok (.aload_n 0, 1) := by decide +kernel
theorem d_R_laysOuts_52 : decode I_R_laysOuts.2.1 52 = .ok (.iload 5, 2) := by decide +kernel
theorem d_R_laysOuts_54 : decode I_R_laysOuts.2.1 54 = .ok (.iload 5, 2) := by decide +kernel
theorem d_R_laysOuts_56 : decode I_R_laysOuts.2.1 56 = .ok (.iconst 2, 1) := by decide +kernel
theorem d_R_laysOuts_57 : decode I_R_laysOuts.2.1 57 = .ok (.irem, 1) := by decide +kernel
theorem d_R_laysOuts_58 : decode I_R_laysOuts.2.1 58 = .ok (.ifCond .ne 7, 3) := by decide +kernel
theorem d_R_laysOuts_61 : decode I_R_laysOuts.2.1 61 = .ok (.iload_n 1, 1) := by decide +kernel
theorem d_R_laysOuts_62 : decode I_R_laysOuts.2.1 62 = .ok (.goto 4, 3) := by decide +kernel
theorem d_R_laysOuts_65 : decode I_R_laysOuts.2.1 65 = .ok (.iload_n 2, 1) := by decide +kernel
theorem d_R_laysOuts_66 : decode I_R_laysOuts.2.1 66 = .ok (.iload 6, 2) := by decide +kernel
theorem d_R_laysOuts_68 : decode I_R_laysOuts.2.1 68 = .ok (.invokevirtual 216, 3) := by decide +kernel
theorem d_R_laysOuts_71 : decode I_R_laysOuts.2.1 71 = .ok (.iinc 5 1, 3) := by decide +kernel
theorem d_R_laysOuts_74 : decode I_R_laysOuts.2.1 74 = .ok (.goto (-50), 3) := by decide +kernel
theorem d_R_laysOuts_77 : decode I_R_laysOuts.2.1 77 = .ok (.aload_n 0, 1) := by decide +kernel
theorem d_R_laysOuts_78 : decode I_R_laysOuts.2.1 78 = .ok (.iconst 0, 1) := by decide +kernel
theorem d_R_laysOuts_79 : decode I_R_laysOuts.2.1 79 = .ok (.iload_n 3, 1) := by decide +kernel
theorem d_R_laysOuts_80 : decode I_R_laysOuts.2.1 80 = .ok (.iconst 1, 1) := by decide +kernel
theorem d_R_laysOuts_81 : decode I_R_laysOuts.2.1 81 = .ok (.isub, 1) := by decide +kernel
theorem d_R_laysOuts_82 : decode I_R_laysOuts.2.1 82 = .ok (.invokevirtual 175, 3) := by decide +kernel
theorem d_R_laysOuts_85 : decode I_R_laysOuts.2.1 85 = .ok (.aload_n 0, 1) := by decide +kernel
theorem d_R_laysOuts_86 : decode I_R_laysOuts.2.1 86 = .ok (.getfield 52, 3) := by decide +kernel
theorem d_R_laysOuts_89 : decode I_R_laysOuts.2.1 89 = .ok (.iload 4, 2) := by decide +kernel
theorem d_R_laysOuts_91 : decode I_R_laysOuts.2.1 91 = .ok (.aload_n 0, 1) := by decide +kernel
theorem d_R_laysOuts_92 : decode I_R_laysOuts.2.1 92 = .ok (.getfield 43, 3) := by decide +kernel
theorem d_R_laysOuts_95 : decode I_R_laysOuts.2.1 95 = .ok (.iload_n 3, 1) := by decide +kernel
theorem d_R_laysOuts_96 : decode I_R_laysOuts.2.1 96 = .ok (.iconst 1, 1) := by decide +kernel
theorem d_R_laysOuts_97 : decode I_R_laysOuts.2.1 97 = .ok (.isub, 1) := by decide +kernel
theorem d_R_laysOuts_98 : decode I_R_laysOuts.2.1 98 = .ok (.iaload, 1) := by decide +kernel
theorem d_R_laysOuts_99 : decode I_R_laysOuts.2.1 99 = .ok (.iload_n 1, 1) := by decide +kernel
theorem d_R_laysOuts_100 : decode I_R_laysOuts.2.1 100 = .ok (.if_icmp .ne 7, 3) := by decide +kernel
theorem d_R_laysOuts_103 : decode I_R_laysOuts.2.1 103 = .ok (.iconst 1, 1) := by decide +kernel
theorem d_R_laysOuts_104 : decode I_R_laysOuts.2.1 104 = .ok (.goto 4, 3) := by decide +kernel
theorem d_R_laysOuts_107 : decode I_R_laysOuts.2.1 107 = .ok (.iconst 0, 1) := by decide +kernel
theorem d_R_laysOuts_108 : decode I_R_laysOuts.2.1 108 = .ok (.bastore, 1) := by decide +kernel
theorem d_R_laysOuts_109 : decode I_R_laysOuts.2.1 109 = .ok (.iinc 4 1, 3) := by decide +kernel
theorem d_R_laysOuts_112 : decode I_R_laysOuts.2.1 112 = .ok (.goto (-105), 3) := by decide +kernel
theorem d_R_laysOuts_115 : decode I_R_laysOuts.2.1 115 = .ok (.return_, 1) := by decide +kernel
theorem d_R_repliesOf_0 : decode I_R_repliesOf.2.1 0 = .ok (.aload_n 0, 1) := by decide +kernel
theorem d_R_repliesOf_1 : decode I_R_repliesOf.2.1 1 = .ok (.iload_n 1, 1) := by decide +kernel
theorem d_R_repliesOf_2 : decode I_R_repliesOf.2.1 2 = .ok (.iload_n 2, 1) := by decide +kernel
theorem d_R_repliesOf_3 : decode I_R_repliesOf.2.1 3 = .ok (.iload_n 3, 1) := by decide +kernel
theorem d_R_repliesOf_4 : decode I_R_repliesOf.2.1 4 = .ok (.invokevirtual 230, 3) := by decide +kernel
theorem d_R_repliesOf_7 : decode I_R_repliesOf.2.1 7 = .ok (.aload_n 0, 1) := by decide +kernel
theorem d_R_repliesOf_8 : decode I_R_repliesOf.2.1 8 = .ok (.iload_n 3, 1) := by decide +kernel
theorem d_R_repliesOf_9 : decode I_R_repliesOf.2.1 9 = .ok (.iconst 4, 1) := by decide +kernel
theorem d_R_repliesOf_10 : decode I_R_repliesOf.2.1 10 = .ok (.invokevirtual 233, 3) := by decide +kernel
theorem d_R_repliesOf_13 : decode I_R_repliesOf.2.1 13 = .ok (.istore 5, 2) := by decide +kernel
theorem d_R_repliesOf_15 : decode I_R_repliesOf.2.1 15 = .ok (.iload 4, 2) := by decide +kernel
theorem d_R_repliesOf_17 : decode I_R_repliesOf.2.1 17 = .ok (.ifCond .ne 14, 3) := by decide +kernel
theorem d_R_repliesOf_20 : decode I_R_repliesOf.2.1 20 = .ok (.iload 5, 2) := by decide +kernel
theorem d_R_repliesOf_22 : decode I_R_repliesOf.2.1 22 = .ok (.ifCond .eq 7, 3) := by decide +kernel
theorem d_R_repliesOf_25 : decode I_R_repliesOf.2.1 25 = .ok (.iconst 1, 1) := by decide +kernel
theorem d_R_repliesOf_26 : decode I_R_repliesOf.2.1 26 = .ok (.goto 4, 3) := by decide +kernel
theorem d_R_repliesOf_29 : decode I_R_repliesOf.2.1 29 = .ok (.iconst 0, 1) := by decide +kernel
theorem d_R_repliesOf_30 : decode I_R_repliesOf.2.1 30 = .ok (.ireturn, 1) := by decide +kernel
theorem d_R_repliesOf_31 : decode I_R_repliesOf.2.1 31 = .ok (.iconst 0, 1) := by decide +kernel
theorem d_R_repliesOf_32 : decode I_R_repliesOf.2.1 32 = .ok (.istore 6, 2) := by decide +kernel
theorem d_R_repliesOf_34 : decode I_R_repliesOf.2.1 34 = .ok (.iload 6, 2) := by decide +kernel
theorem d_R_repliesOf_36 : decode I_R_repliesOf.2.1 36 = .ok (.iconst 4, 1) := by decide +kernel
theorem d_R_repliesOf_37 : decode I_R_repliesOf.2.1 37 = .ok (.if_icmp .ge 19, 3) := by decide +kernel
theorem d_R_repliesOf_40 : decode I_R_repliesOf.2.1 40 = .ok (.aload_n 0, 1) := by decide +kernel
theorem d_R_repliesOf_41 : decode I_R_repliesOf.2.1 41 = .ok (.getfield 52, 3) := by decide +kernel
theorem d_R_repliesOf_44 : decode I_R_repliesOf.2.1 44 = .ok (.iload 6, 2) := by decide +kernel
theorem d_R_repliesOf_46 : decode I_R_repliesOf.2.1 46 = .ok (.baload, 1) := by decide +kernel
theorem d_R_repliesOf_47 : decode I_R_repliesOf.2.1 47 = .ok (.ifCond .ne 9, 3) := by decide +kernel
theorem d_R_repliesOf_50 : decode I_R_repliesOf.2.1 50 = .ok (.iinc 6 1, 3) := by decide +kernel
theorem d_R_repliesOf_53 : decode I_R_repliesOf.2.1 53 = .ok (.goto (-19), 3) := by decide +kernel
theorem d_R_repliesOf_56 : decode I_R_repliesOf.2.1 56 = .ok (.iload 6, 2) := by decide +kernel
theorem d_R_repliesOf_58 : decode I_R_repliesOf.2.1 58 = .ok (.iconst 4, 1) := by decide +kernel
theorem d_R_repliesOf_59 : decode I_R_repliesOf.2.1 59 = .ok (.if_icmp .ge 8, 3) := by decide +kernel
theorem d_R_repliesOf_62 : decode I_R_repliesOf.2.1 62 = .ok (.iload 6, 2) := by decide +kernel
theorem d_R_repliesOf_64 : decode I_R_repliesOf.2.1 64 = .ok (.goto 4, 3) := by decide +kernel
theorem d_R_repliesOf_67 : decode I_R_repliesOf.2.1 67 = .ok (.iconst (-1), 1) := by decide +kernel
theorem d_R_repliesOf_68 : decode I_R_repliesOf.2.1 68 = .ok (.ireturn, 1) := by decide +kernel
theorem d_R_replies_0 : decode I_R_replies.2.1 0 = .ok (.aload_n 0, 1) := by decide +kernel
theorem d_R_replies_1 : decode I_R_replies.2.1 1 = .ok (.iload_n 1, 1) := by decide +kernel
theorem d_R_replies_2 : decode I_R_replies.2.1 2 = .ok (.invokevirtual 112, 3) := by decide +kernel
theorem d_R_replies_5 : decode I_R_replies.2.1 5 = .ok (.ifCond .eq 47, 3) := by decide +kernel
theorem d_R_replies_8 : decode I_R_replies.2.1 8 = .ok (.aload_n 0, 1) := by decide +kernel
theorem d_R_replies_9 : decode I_R_replies.2.1 9 = .ok (.iload_n 2, 1) := by decide +kernel
theorem d_R_replies_10 : decode I_R_replies.2.1 10 = .ok (.invokevirtual 112, 3) := by decide +kernel
theorem d_R_replies_13 : decode I_R_replies.2.1 13 = .ok (.ifCond .eq 39, 3) := by decide +kernel
theorem d_R_replies_16 : decode I_R_replies.2.1 16 = .ok (.iload_n 1, 1) := by decide +kernel
theorem d_R_replies_17 : decode I_R_replies.2.1 17 = .ok (.iload_n 2, 1) := by decide +kernel
theorem d_R_replies_18 : decode I_R_replies.2.1 18 = .ok (.if_icmp .eq 34, 3) := by decide +kernel
theorem d_R_replies_21 : decode I_R_replies.2.1 21 = .ok (.iload_n 3, 1) := by decide +kernel
theorem d_R_replies_22 : decode I_R_replies.2.1 22 = .ok (.iconst 1, 1) := by decide +kernel
theorem d_R_replies_23 : decode I_R_replies.2.1 23 = .ok (.iconst 4, 1) := by decide +kernel
theorem d_R_replies_24 : decode I_R_replies.2.1 24 = .ok (.invokestatic 95, 3) := by decide +kernel
theorem d_R_replies_27 : decode I_R_replies.2.1 27 = .ok (.ifCond .eq 25, 3) := by decide +kernel
theorem d_R_replies_30 : decode I_R_replies.2.1 30 = .ok (.iload 4, 2) := by decide +kernel
theorem d_R_replies_32 : decode I_R_replies.2.1 32 = .ok (.iconst 0, 1) := by decide +kernel
theorem d_R_replies_33 : decode I_R_replies.2.1 33 = .ok (.iconst 1, 1) := by decide +kernel
theorem d_R_replies_34 : decode I_R_replies.2.1 34 = .ok (.invokestatic 95, 3) := by decide +kernel
theorem d_R_replies_37 : decode I_R_replies.2.1 37 = .ok (.ifCond .eq 15, 3) := by decide +kernel
theorem d_R_replies_40 : decode I_R_replies.2.1 40 = .ok (.aload_n 0, 1) := by decide +kernel
theorem d_R_replies_41 : decode I_R_replies.2.1 41 = .ok (.iload_n 1, 1) := by decide +kernel
theorem d_R_replies_42 : decode I_R_replies.2.1 42 = .ok (.iload_n 2, 1) := by decide +kernel
theorem d_R_replies_43 : decode I_R_replies.2.1 43 = .ok (.iload_n 3, 1) := by decide +kernel
theorem d_R_replies_44 : decode I_R_replies.2.1 44 = .ok (.iload 4, 2) := by decide +kernel
theorem d_R_replies_46 : decode I_R_replies.2.1 46 = .ok (.invokevirtual 236, 3) := by decide +kernel
theorem d_R_replies_49 : decode I_R_replies.2.1 49 = .ok (.goto 5, 3) := by decide +kernel
theorem d_R_replies_52 : decode I_R_replies.2.1 52 = .ok (.bipush (-2), 2) := by decide +kernel
theorem d_R_replies_54 : decode I_R_replies.2.1 54 = .ok (.ireturn, 1) := by decide +kernel
theorem d_R_seen_0 : decode I_R_seen.2.1 0 = .ok (.iload_n 1, 1) := by decide +kernel
theorem d_R_seen_1 : decode I_R_seen.2.1 1 = .ok (.invokestatic 126, 3) := by decide +kernel
theorem d_R_seen_4 : decode I_R_seen.2.1 4 = .ok (.ifCond .eq 12, 3) := by decide +kernel
theorem d_R_seen_7 : decode I_R_seen.2.1 7 = .ok (.iload_n 2, 1) := by decide +kernel
theorem d_R_seen_8 : decode I_R_seen.2.1 8 = .ok (.iconst (-1), 1) := by decide +kernel
theorem d_R_seen_9 : decode I_R_seen.2.1 9 = .ok (.iconst 5, 1) := by decide +kernel
theorem d_R_seen_10 : decode I_R_seen.2.1 10 = .ok (.invokestatic 95, 3) := by decide +kernel
theorem d_R_seen_13 : decode I_R_seen.2.1 13 = .ok (.ifCond .ne 6, 3) := by decide +kernel
theorem d_R_seen_16 : decode I_R_seen.2.1 16 = .ok (.bipush (-2), 2) := by decide +kernel
theorem d_R_seen_18 : decode I_R_seen.2.1 18 = .ok (.ireturn, 1) := by decide +kernel
theorem d_R_seen_19 : decode I_R_seen.2.1 19 = .ok (.aload_n 0, 1) := by decide +kernel
theorem d_R_seen_20 : decode I_R_seen.2.1 20 = .ok (.getfield 240, 3) := by decide +kernel
theorem d_R_seen_23 : decode I_R_seen.2.1 23 = .ok (.bipush 8, 2) := by decide +kernel
theorem d_R_seen_25 : decode I_R_seen.2.1 25 = .ok (.if_icmp .ne 6, 3) := by decide +kernel
theorem d_R_seen_28 : decode I_R_seen.2.1 28 = .ok (.bipush (-4), 2) := by decide +kernel
theorem d_R_seen_30 : decode I_R_seen.2.1 30 = .ok (.ireturn, 1) := by decide +kernel
theorem d_R_seen_31 : decode I_R_seen.2.1 31 = .ok (.aload_n 0, 1) := by decide +kernel
theorem d_R_seen_32 : decode I_R_seen.2.1 32 = .ok (.getfield 56, 3) := by decide +kernel
theorem d_R_seen_35 : decode I_R_seen.2.1 35 = .ok (.aload_n 0, 1) := by decide +kernel
theorem d_R_seen_36 : decode I_R_seen.2.1 36 = .ok (.getfield 240, 3) := by decide +kernel
theorem d_R_seen_39 : decode I_R_seen.2.1 39 = .ok (.iload_n 1, 1) := by decide +kernel
theorem d_R_seen_40 : decode I_R_seen.2.1 40 = .ok (.iastore, 1) := by decide +kernel
theorem d_R_seen_41 : decode I_R_seen.2.1 41 = .ok (.aload_n 0, 1) := by decide +kernel
theorem d_R_seen_42 : decode I_R_seen.2.1 42 = .ok (.getfield 59, 3) := by decide +kernel
theorem d_R_seen_45 : decode I_R_seen.2.1 45 = .ok (.aload_n 0, 1) := by decide +kernel
theorem d_R_seen_46 : decode I_R_seen.2.1 46 = .ok (.getfield 240, 3) := by decide +kernel
theorem d_R_seen_49 : decode I_R_seen.2.1 49 = .ok (.iload_n 2, 1) := by decide +kernel
theorem d_R_seen_50 : decode I_R_seen.2.1 50 = .ok (.iastore, 1) := by decide +kernel
theorem d_R_seen_51 : decode I_R_seen.2.1 51 = .ok (.aload_n 0, 1) := by decide +kernel
theorem d_R_seen_52 : decode I_R_seen.2.1 52 = .ok (.dup, 1) := by decide +kernel
theorem d_R_seen_53 : decode I_R_seen.2.1 53 = .ok (.getfield 240, 3) := by decide +kernel
theorem d_R_seen_56 : decode I_R_seen.2.1 56 = .ok (.iconst 1, 1) := by decide +kernel
theorem d_R_seen_57 : decode I_R_seen.2.1 57 = .ok (.iadd, 1) := by decide +kernel
theorem d_R_seen_58 : decode I_R_seen.2.1 58 = .ok (.putfield 240, 3) := by decide +kernel
theorem d_R_seen_61 : decode I_R_seen.2.1 61 = .ok (.aload_n 0, 1) := by decide +kernel
theorem d_R_seen_62 : decode I_R_seen.2.1 62 = .ok (.getfield 240, 3) := by decide +kernel
theorem d_R_seen_65 : decode I_R_seen.2.1 65 = .ok (.ireturn, 1) := by decide +kernel
theorem d_R_forget_0 : decode I_R_forget.2.1 0 = .ok (.aload_n 0, 1) := by decide +kernel
theorem d_R_forget_1 : decode I_R_forget.2.1 1 = .ok (.getfield 240, 3) := by decide +kernel
theorem d_R_forget_4 : decode I_R_forget.2.1 4 = .ok (.istore_n 1, 1) := by decide +kernel
theorem d_R_forget_5 : decode I_R_forget.2.1 5 = .ok (.aload_n 0, 1) := by decide +kernel
theorem d_R_forget_6 : decode I_R_forget.2.1 6 = .ok (.iconst 0, 1) := by decide +kernel
theorem d_R_forget_7 : decode I_R_forget.2.1 7 = .ok (.putfield 240, 3) := by decide +kernel
theorem d_R_forget_10 : decode I_R_forget.2.1 10 = .ok (.iload_n 1, 1) := by decide +kernel
theorem d_R_forget_11 : decode I_R_forget.2.1 11 = .ok (.ireturn, 1) := by decide +kernel
theorem d_R_isSeen_0 : decode I_R_isSeen.2.1 0 = .ok (.iconst 1, 1) := by decide +kernel
theorem d_R_isSeen_1 : decode I_R_isSeen.2.1 1 = .ok (.istore_n 1, 1) := by decide +kernel
theorem d_R_isSeen_2 : decode I_R_isSeen.2.1 2 = .ok (.iconst 0, 1) := by decide +kernel
theorem d_R_isSeen_3 : decode I_R_isSeen.2.1 3 = .ok (.istore_n 2, 1) := by decide +kernel
theorem d_R_isSeen_4 : decode I_R_isSeen.2.1 4 = .ok (.iload_n 2, 1) := by decide +kernel
theorem d_R_isSeen_5 : decode I_R_isSeen.2.1 5 = .ok (.aload_n 0, 1) := by decide +kernel
theorem d_R_isSeen_6 : decode I_R_isSeen.2.1 6 = .ok (.getfield 240, 3) := by decide +kernel
theorem d_R_isSeen_9 : decode I_R_isSeen.2.1 9 = .ok (.if_icmp .ge 39, 3) := by decide +kernel
theorem d_R_isSeen_12 : decode I_R_isSeen.2.1 12 = .ok (.iload_n 1, 1) := by decide +kernel
theorem d_R_isSeen_13 : decode I_R_isSeen.2.1 13 = .ok (.ifCond .eq 27, 3) := by decide +kernel
theorem d_R_isSeen_16 : decode I_R_isSeen.2.1 16 = .ok (.aload_n 0, 1) := by decide +kernel
theorem d_R_isSeen_17 : decode I_R_isSeen.2.1 17 = .ok (.getfield 43, 3) := by decide +kernel
theorem d_R_isSeen_20 : decode I_R_isSeen.2.1 20 = .ok (.aload_n 0, 1) := by decide +kernel
theorem d_R_isSeen_21 : decode I_R_isSeen.2.1 21 = .ok (.getfield 56, 3) := by decide +kernel
theorem d_R_isSeen_24 : decode I_R_isSeen.2.1 24 = .ok (.iload_n 2, 1) := by decide +kernel
theorem d_R_isSeen_25 : decode I_R_isSeen.2.1 25 = .ok (.iaload, 1) := by decide +kernel
theorem d_R_isSeen_26 : decode I_R_isSeen.2.1 26 = .ok (.iaload, 1) := by decide +kernel
theorem d_R_isSeen_27 : decode I_R_isSeen.2.1 27 = .ok (.aload_n 0, 1) := by decide +kernel
theorem d_R_isSeen_28 : decode I_R_isSeen.2.1 28 = .ok (.getfield 59, 3) := by decide +kernel
theorem d_R_isSeen_31 : decode I_R_isSeen.2.1 31 = .ok (.iload_n 2, 1) := by decide +kernel
theorem d_R_isSeen_32 : decode I_R_isSeen.2.1 32 = .ok (.iaload, 1) := by decide +kernel
theorem d_R_isSeen_33 : decode I_R_isSeen.2.1 33 = .ok (.if_icmp .ne 7, 3) := by decide +kernel
theorem d_R_isSeen_36 : decode I_R_isSeen.2.1 36 = .ok (.iconst 1, 1) := by decide +kernel
theorem d_R_isSeen_37 : decode I_R_isSeen.2.1 37 = .ok (.goto 4, 3) := by decide +kernel
theorem d_R_isSeen_40 : decode I_R_isSeen.2.1 40 = .ok (.iconst 0, 1) := by decide +kernel
theorem d_R_isSeen_41 : decode I_R_isSeen.2.1 41 = .ok (.istore_n 1, 1) := by decide +kernel
theorem d_R_isSeen_42 : decode I_R_isSeen.2.1 42 = .ok (.iinc 2 1, 3) := by decide +kernel
theorem d_R_isSeen_45 : decode I_R_isSeen.2.1 45 = .ok (.goto (-41), 3) := by decide +kernel
theorem d_R_isSeen_48 : decode I_R_isSeen.2.1 48 = .ok (.iload_n 1, 1) := by decide +kernel
theorem d_R_isSeen_49 : decode I_R_isSeen.2.1 49 = .ok (.ireturn, 1) := by decide +kernel
theorem d_R_lastSeen_0 : decode I_R_lastSeen.2.1 0 = .ok (.iconst 0, 1) := by decide +kernel
theorem d_R_lastSeen_1 : decode I_R_lastSeen.2.1 1 = .ok (.istore_n 1, 1) := by decide +kernel
theorem d_R_lastSeen_2 : decode I_R_lastSeen.2.1 2 = .ok (.iconst 0, 1) := by decide +kernel
theorem d_R_lastSeen_3 : decode I_R_lastSeen.2.1 3 = .ok (.istore_n 2, 1) := by decide +kernel
theorem d_R_lastSeen_4 : decode I_R_lastSeen.2.1 4 = .ok (.iload_n 2, 1) := by decide +kernel
theorem d_R_lastSeen_5 : decode I_R_lastSeen.2.1 5 = .ok (.aload_n 0, 1) := by decide +kernel
theorem d_R_lastSeen_6 : decode I_R_lastSeen.2.1 6 = .ok (.getfield 240, 3) := by decide +kernel
theorem d_R_lastSeen_9 : decode I_R_lastSeen.2.1 9 = .ok (.if_icmp .ge 30, 3) := by decide +kernel
theorem d_R_lastSeen_12 : decode I_R_lastSeen.2.1 12 = .ok (.aload_n 0, 1) := by decide +kernel
theorem d_R_lastSeen_13 : decode I_R_lastSeen.2.1 13 = .ok (.getfield 56, 3) := by decide +kernel
theorem d_R_lastSeen_16 : decode I_R_lastSeen.2.1 16 = .ok (.iload_n 2, 1) := by decide +kernel
theorem d_R_lastSeen_17 : decode I_R_lastSeen.2.1 17 = .ok (.iaload, 1) := by decide +kernel
theorem d_R_lastSeen_18 : decode I_R_lastSeen.2.1 18 = .ok (.iload_n 1, 1) := by decide +kernel
theorem d_R_lastSeen_19 : decode I_R_lastSeen.2.1 19 = .ok (.if_icmp .le 12, 3) := by decide +kernel
theorem d_R_lastSeen_22 : decode I_R_lastSeen.2.1 22 = .ok (.aload_n 0, 1) := by decide +kernel
theorem d_R_lastSeen_23 : decode I_R_lastSeen.2.1 23 = .ok (.getfield 56, 3) := by decide +kernel
theorem d_R_lastSeen_26 : decode I_R_lastSeen.2.1 26 = .ok (.iload_n 2, 1) := by decide +kernel
theorem d_R_lastSeen_27 : decode I_R_lastSeen.2.1 27 = .ok (.iaload, 1) := by decide +kernel
theorem d_R_lastSeen_28 : decode I_R_lastSeen.2.1 28 = .ok (.goto 4, 3) := by decide +kernel
theorem d_R_lastSeen_31 : decode I_R_lastSeen.2.1 31 = .ok (.iload_n 1, 1) := by decide +kernel
theorem d_R_lastSeen_32 : decode I_R_lastSeen.2.1 32 = .ok (.istore_n 1, 1) := by decide +kernel
theorem d_R_lastSeen_33 : decode I_R_lastSeen.2.1 33 = .ok (.iinc 2 1, 3) := by decide +kernel
theorem d_R_lastSeen_36 : decode I_R_lastSeen.2.1 36 = .ok (.goto (-32), 3) := by decide +kernel
theorem d_R_lastSeen_39 : decode I_R_lastSeen.2.1 39 = .ok (.iload_n 1, 1) := by decide +kernel
theorem d_R_lastSeen_40 : decode I_R_lastSeen.2.1 40 = .ok (.ireturn, 1) := by decide +kernel
theorem d_R_tastesBy_0 : decode I_R_tastesBy.2.1 0 = .ok (.aload_n 0, 1) := by decide +kernel
theorem d_R_tastesBy_1 : decode I_R_tastesBy.2.1 1 = .ok (.getfield 16, 3) := by decide +kernel
theorem d_R_tastesBy_4 : decode I_R_tastesBy.2.1 4 = .ok (.iconst 0, 1) := by decide +kernel
theorem d_R_tastesBy_5 : decode I_R_tastesBy.2.1 5 = .ok (.iload_n 1, 1) := by decide +kernel
theorem d_R_tastesBy_6 : decode I_R_tastesBy.2.1 6 = .ok (.bipush 100, 2) := by decide +kernel
theorem d_R_tastesBy_8 : decode I_R_tastesBy.2.1 8 = .ok (.idiv, 1) := by decide +kernel
theorem d_R_tastesBy_9 : decode I_R_tastesBy.2.1 9 = .ok (.iastore, 1) := by decide +kernel
theorem d_R_tastesBy_10 : decode I_R_tastesBy.2.1 10 = .ok (.aload_n 0, 1) := by decide +kernel
theorem d_R_tastesBy_11 : decode I_R_tastesBy.2.1 11 = .ok (.getfield 16, 3) := by decide +kernel
theorem d_R_tastesBy_14 : decode I_R_tastesBy.2.1 14 = .ok (.iconst 1, 1) := by decide +kernel
theorem d_R_tastesBy_15 : decode I_R_tastesBy.2.1 15 = .ok (.iload_n 1, 1) := by decide +kernel
theorem d_R_tastesBy_16 : decode I_R_tastesBy.2.1 16 = .ok (.bipush 10, 2) := by decide +kernel
theorem d_R_tastesBy_18 : decode I_R_tastesBy.2.1 18 = .ok (.idiv, 1) := by decide +kernel
theorem d_R_tastesBy_19 : decode I_R_tastesBy.2.1 19 = .ok (.bipush 10, 2) := by decide +kernel
theorem d_R_tastesBy_21 : decode I_R_tastesBy.2.1 21 = .ok (.irem, 1) := by decide +kernel
theorem d_R_tastesBy_22 : decode I_R_tastesBy.2.1 22 = .ok (.iastore, 1) := by decide +kernel
theorem d_R_tastesBy_23 : decode I_R_tastesBy.2.1 23 = .ok (.aload_n 0, 1) := by decide +kernel
theorem d_R_tastesBy_24 : decode I_R_tastesBy.2.1 24 = .ok (.getfield 16, 3) := by decide +kernel
theorem d_R_tastesBy_27 : decode I_R_tastesBy.2.1 27 = .ok (.iconst 2, 1) := by decide +kernel
theorem d_R_tastesBy_28 : decode I_R_tastesBy.2.1 28 = .ok (.iload_n 1, 1) := by decide +kernel
theorem d_R_tastesBy_29 : decode I_R_tastesBy.2.1 29 = .ok (.bipush 10, 2) := by decide +kernel
theorem d_R_tastesBy_31 : decode I_R_tastesBy.2.1 31 = .ok (.irem, 1) := by decide +kernel
theorem d_R_tastesBy_32 : decode I_R_tastesBy.2.1 32 = .ok (.iastore, 1) := by decide +kernel
theorem d_R_tastesBy_33 : decode I_R_tastesBy.2.1 33 = .ok (.return_, 1) := by decide +kernel
theorem d_R_laysFits_0 : decode I_R_laysFits.2.1 0 = .ok (.aload_n 0, 1) := by decide +kernel
theorem d_R_laysFits_1 : decode I_R_laysFits.2.1 1 = .ok (.invokevirtual 109, 3) := by decide +kernel
theorem d_R_laysFits_4 : decode I_R_laysFits.2.1 4 = .ok (.aload_n 0, 1) := by decide +kernel
theorem d_R_laysFits_5 : decode I_R_laysFits.2.1 5 = .ok (.invokevirtual 172, 3) := by decide +kernel
theorem d_R_laysFits_8 : decode I_R_laysFits.2.1 8 = .ok (.bipush 100, 2) := by decide +kernel
theorem d_R_laysFits_10 : decode I_R_laysFits.2.1 10 = .ok (.aload_n 0, 1) := by decide +kernel
theorem d_R_laysFits_11 : decode I_R_laysFits.2.1 11 = .ok (.getfield 16, 3) := by decide +kernel
theorem d_R_laysFits_14 : decode I_R_laysFits.2.1 14 = .ok (.iconst 0, 1) := by decide +kernel
theorem d_R_laysFits_15 : decode I_R_laysFits.2.1 15 = .ok (.iaload, 1) := by decide +kernel
theorem d_R_laysFits_16 : decode I_R_laysFits.2.1 16 = .ok (.imul, 1) := by decide +kernel
theorem d_R_laysFits_17 : decode I_R_laysFits.2.1 17 = .ok (.bipush 10, 2) := by decide +kernel
theorem d_R_laysFits_19 : decode I_R_laysFits.2.1 19 = .ok (.aload_n 0, 1) := by decide +kernel
theorem d_R_laysFits_20 : decode I_R_laysFits.2.1 20 = .ok (.getfield 16, 3) := by decide +kernel
theorem d_R_laysFits_23 : decode I_R_laysFits.2.1 23 = .ok (.iconst 1, 1) := by decide +kernel
theorem d_R_laysFits_24 : decode I_R_laysFits.2.1 24 = .ok (.iaload, 1) := by decide +kernel
theorem d_R_laysFits_25 : decode I_R_laysFits.2.1 25 = .ok (.imul, 1) := by decide +kernel
theorem d_R_laysFits_26 : decode I_R_laysFits.2.1 26 = .ok (.iadd, 1) := by decide +kernel
theorem d_R_laysFits_27 : decode I_R_laysFits.2.1 27 = .ok (.aload_n 0, 1) := by decide +kernel
theorem d_R_laysFits_28 : decode I_R_laysFits.2.1 28 = .ok (.getfield 16, 3) := by decide +kernel
theorem d_R_laysFits_31 : decode I_R_laysFits.2.1 31 = .ok (.iconst 2, 1) := by decide +kernel
theorem d_R_laysFits_32 : decode I_R_laysFits.2.1 32 = .ok (.iaload, 1) := by decide +kernel
theorem d_R_laysFits_33 : decode I_R_laysFits.2.1 33 = .ok (.iadd, 1) := by decide +kernel
theorem d_R_laysFits_34 : decode I_R_laysFits.2.1 34 = .ok (.istore_n 1, 1) := by decide +kernel
theorem d_R_laysFits_35 : decode I_R_laysFits.2.1 35 = .ok (.aload_n 0, 1) := by decide +kernel
theorem d_R_laysFits_36 : decode I_R_laysFits.2.1 36 = .ok (.iconst 0, 1) := by decide +kernel
theorem d_R_laysFits_37 : decode I_R_laysFits.2.1 37 = .ok (.putfield 243, 3) := by decide +kernel
theorem d_R_laysFits_40 : decode I_R_laysFits.2.1 40 = .ok (.aload_n 0, 1) := by decide +kernel
theorem d_R_laysFits_41 : decode I_R_laysFits.2.1 41 = .ok (.iconst (-1), 1) := by decide +kernel
theorem d_R_laysFits_42 : decode I_R_laysFits.2.1 42 = .ok (.putfield 246, 3) := by decide +kernel
theorem d_R_laysFits_45 : decode I_R_laysFits.2.1 45 = .ok (.iconst 0, 1) := by decide +kernel
theorem d_R_laysFits_46 : decode I_R_laysFits.2.1 46 = .ok (.istore_n 2, 1) := by decide +kernel
theorem d_R_laysFits_47 : decode I_R_laysFits.2.1 47 = .ok (.iload_n 2, 1) := by decide +kernel
theorem d_R_laysFits_48 : decode I_R_laysFits.2.1 48 = .ok (.sipush 1000, 3) := by decide +kernel
theorem d_R_laysFits_51 : decode I_R_laysFits.2.1 51 = .ok (.if_icmp .ge 85, 3) := by decide +kernel
theorem d_R_laysFits_54 : decode I_R_laysFits.2.1 54 = .ok (.aload_n 0, 1) := by decide +kernel
theorem d_R_laysFits_55 : decode I_R_laysFits.2.1 55 = .ok (.iload_n 2, 1) := by decide +kernel
theorem d_R_laysFits_56 : decode I_R_laysFits.2.1 56 = .ok (.invokevirtual 249, 3) := by decide +kernel
theorem d_R_laysFits_59 : decode I_R_laysFits.2.1 59 = .ok (.aload_n 0, 1) := by decide +kernel
theorem d_R_laysFits_60 : decode I_R_laysFits.2.1 60 = .ok (.iconst 0, 1) := by decide +kernel
theorem d_R_laysFits_61 : decode I_R_laysFits.2.1 61 = .ok (.aload_n 0, 1) := by decide +kernel
theorem d_R_laysFits_62 : decode I_R_laysFits.2.1 62 = .ok (.invokevirtual 253, 3) := by decide +kernel
theorem d_R_laysFits_65 : decode I_R_laysFits.2.1 65 = .ok (.invokevirtual 175, 3) := by decide +kernel
theorem d_R_laysFits_68 : decode I_R_laysFits.2.1 68 = .ok (.aload_n 0, 1) := by decide +kernel
theorem d_R_laysFits_69 : decode I_R_laysFits.2.1 69 = .ok (.getfield 62, 3) := by decide +kernel
theorem d_R_laysFits_72 : decode I_R_laysFits.2.1 72 = .ok (.iload_n 2, 1) := by decide +kernel
theorem d_R_laysFits_73 : decode I_R_laysFits.2.1 73 = .ok (.aload_n 0, 1) := by decide +kernel
theorem d_R_laysFits_74 : decode I_R_laysFits.2.1 74 = .ok (.invokevirtual 256, 3) := by decide +kernel
theorem d_R_laysFits_77 : decode I_R_laysFits.2.1 77 = .ok (.bastore, 1) := by decide +kernel
theorem d_R_laysFits_78 : decode I_R_laysFits.2.1 78 = .ok (.aload_n 0, 1) := by decide +kernel
theorem d_R_laysFits_79 : decode I_R_laysFits.2.1 79 = .ok (.aload_n 0, 1) := by decide +kernel
theorem d_R_laysFits_80 : decode I_R_laysFits.2.1 80 = .ok (.getfield 62, 3) := by decide +kernel
theorem d_R_laysFits_83 : decode I_R_laysFits.2.1 83 = .ok (.iload_n 2, 1) := by decide +kernel
theorem d_R_laysFits_84 : decode I_R_laysFits.2.1 84 = .ok (.baload, 1) := by decide +kernel
theorem d_R_laysFits_85 : decode I_R_laysFits.2.1 85 = .ok (.ifCond .eq 15, 3) := by decide +kernel
theorem d_R_laysFits_88 : decode I_R_laysFits.2.1 88 = .ok (.aload_n 0, 1) := by decide +kernel
theorem d_R_laysFits_89 : decode I_R_laysFits.2.1 89 = .ok (.getfield 246, 3) := by decide +kernel
theorem d_R_laysFits_92 : decode I_R_laysFits.2.1 92 = .ok (.iconst (-1), 1) := by decide +kernel
theorem d_R_laysFits_93 : decode I_R_laysFits.2.1 93 = .ok (.if_icmp .ne 7, 3) := by decide +kernel
theorem d_R_laysFits_96 : decode I_R_laysFits.2.1 96 = .ok (.iload_n 2, 1) := by decide +kernel
theorem d_R_laysFits_97 : decode I_R_laysFits.2.1 97 = .ok (.goto 7, 3) := by decide +kernel
theorem d_R_laysFits_100 : decode I_R_laysFits.2.1 100 = .ok (.aload_n 0, 1) := by decide +kernel
theorem d_R_laysFits_101 : decode I_R_laysFits.2.1 101 = .ok (.getfield 246, 3) := by decide +kernel
theorem d_R_laysFits_104 : decode I_R_laysFits.2.1 104 = .ok (.putfield 246, 3) := by decide +kernel
theorem d_R_laysFits_107 : decode I_R_laysFits.2.1 107 = .ok (.aload_n 0, 1) := by decide +kernel
theorem d_R_laysFits_108 : decode I_R_laysFits.2.1 108 = .ok (.dup, 1) := by decide +kernel
theorem d_R_laysFits_109 : decode I_R_laysFits.2.1 109 = .ok (.getfield 243, 3) := by decide +kernel
theorem d_R_laysFits_112 : decode I_R_laysFits.2.1 112 = .ok (.aload_n 0, 1) := by decide +kernel
theorem d_R_laysFits_113 : decode I_R_laysFits.2.1 113 = .ok (.getfield 62, 3) := by decide +kernel
theorem d_R_laysFits_116 : decode I_R_laysFits.2.1 116 = .ok (.iload_n 2, 1) := by decide +kernel
theorem d_R_laysFits_117 : decode I_R_laysFits.2.1 117 = .ok (.baload, 1) := by decide +kernel
theorem d_R_laysFits_118 : decode I_R_laysFits.2.1 118 = .ok (.ifCond .eq 7, 3) := by decide +kernel
theorem d_R_laysFits_121 : decode I_R_laysFits.2.1 121 = .ok (.iconst 1, 1) := by decide +kernel
theorem d_R_laysFits_122 : decode I_R_laysFits.2.1 122 = .ok (.goto 4, 3) := by decide +kernel
theorem d_R_laysFits_125 : decode I_R_laysFits.2.1 125 = .ok (.iconst 0, 1) := by decide +kernel
theorem d_R_laysFits_126 : decode I_R_laysFits.2.1 126 = .ok (.iadd, 1) := by decide +kernel
theorem d_R_laysFits_127 : decode I_R_laysFits.2.1 127 = .ok (.putfield 243, 3) := by decide +kernel
theorem d_R_laysFits_130 : decode I_R_laysFits.2.1 130 = .ok (.iinc 2 1, 3) := by decide +kernel
theorem d_R_laysFits_133 : decode I_R_laysFits.2.1 133 = .ok (.goto (-86), 3) := by decide +kernel
theorem d_R_laysFits_136 : decode I_R_laysFits.2.1 136 = .ok (.aload_n 0, 1) := by decide +kernel
theorem d_R_laysFits_137 : decode I_R_laysFits.2.1 137 = .ok (.iload_n 1, 1) := by decide +kernel
theorem d_R_laysFits_138 : decode I_R_laysFits.2.1 138 = .ok (.invokevirtual 249, 3) := by decide +kernel
theorem d_R_laysFits_141 : decode I_R_laysFits.2.1 141 = .ok (.return_, 1) := by decide +kernel
theorem d_R_tastesOf_0 : decode I_R_tastesOf.2.1 0 = .ok (.aload_n 0, 1) := by decide +kernel
theorem d_R_tastesOf_1 : decode I_R_tastesOf.2.1 1 = .ok (.invokevirtual 260, 3) := by decide +kernel
theorem d_R_tastesOf_4 : decode I_R_tastesOf.2.1 4 = .ok (.iload_n 1, 1) := by decide +kernel
theorem d_R_tastesOf_5 : decode I_R_tastesOf.2.1 5 = .ok (.ifCond .ne 10, 3) := by decide +kernel
theorem d_R_tastesOf_8 : decode I_R_tastesOf.2.1 8 = .ok (.aload_n 0, 1) := by decide +kernel
theorem d_R_tastesOf_9 : decode I_R_tastesOf.2.1 9 = .ok (.getfield 243, 3) := by decide +kernel
theorem d_R_tastesOf_12 : decode I_R_tastesOf.2.1 12 = .ok (.goto 7, 3) := by decide +kernel
theorem d_R_tastesOf_15 : decode I_R_tastesOf.2.1 15 = .ok (.aload_n 0, 1) := by decide +kernel
theorem d_R_tastesOf_16 : decode I_R_tastesOf.2.1 16 = .ok (.getfield 246, 3) := by decide +kernel
theorem d_R_tastesOf_19 : decode I_R_tastesOf.2.1 19 = .ok (.ireturn, 1) := by decide +kernel
theorem d_R_tastes_0 : decode I_R_tastes.2.1 0 = .ok (.iload_n 1, 1) := by decide +kernel
theorem d_R_tastes_1 : decode I_R_tastes.2.1 1 = .ok (.iconst 0, 1) := by decide +kernel
theorem d_R_tastes_2 : decode I_R_tastes.2.1 2 = .ok (.iconst 1, 1) := by decide +kernel
theorem d_R_tastes_3 : decode I_R_tastes.2.1 3 = .ok (.invokestatic 95, 3) := by decide +kernel
theorem d_R_tastes_6 : decode I_R_tastes.2.1 6 = .ok (.ifCond .eq 11, 3) := by decide +kernel
theorem d_R_tastes_9 : decode I_R_tastes.2.1 9 = .ok (.aload_n 0, 1) := by decide +kernel
theorem d_R_tastes_10 : decode I_R_tastes.2.1 10 = .ok (.iload_n 1, 1) := by decide +kernel
theorem d_R_tastes_11 : decode I_R_tastes.2.1 11 = .ok (.invokevirtual 263, 3) := by decide +kernel
theorem d_R_tastes_14 : decode I_R_tastes.2.1 14 = .ok (.goto 5, 3) := by decide +kernel
theorem d_R_tastes_17 : decode I_R_tastes.2.1 17 = .ok (.bipush (-2), 2) := by decide +kernel
theorem d_R_tastes_19 : decode I_R_tastes.2.1 19 = .ok (.ireturn, 1) := by decide +kernel
theorem d_R_tellsOf_0 : decode I_R_tellsOf.2.1 0 = .ok (.aload_n 0, 1) := by decide +kernel
theorem d_R_tellsOf_1 : decode I_R_tellsOf.2.1 1 = .ok (.invokevirtual 260, 3) := by decide +kernel
theorem d_R_tellsOf_4 : decode I_R_tellsOf.2.1 4 = .ok (.bipush 100, 2) := by decide +kernel
theorem d_R_tellsOf_6 : decode I_R_tellsOf.2.1 6 = .ok (.aload_n 0, 1) := by decide +kernel
theorem d_R_tellsOf_7 : decode I_R_tellsOf.2.1 7 = .ok (.getfield 16, 3) := by decide +kernel
theorem d_R_tellsOf_10 : decode I_R_tellsOf.2.1 10 = .ok (.iconst 0, 1) := by decide +kernel
theorem d_R_tellsOf_11 : decode I_R_tellsOf.2.1 11 = .ok (.iaload, 1) := by decide +kernel
theorem d_R_tellsOf_12 : decode I_R_tellsOf.2.1 12 = .ok (.imul, 1) := by decide +kernel
theorem d_R_tellsOf_13 : decode I_R_tellsOf.2.1 13 = .ok (.bipush 10, 2) := by decide +kernel
theorem d_R_tellsOf_15 : decode I_R_tellsOf.2.1 15 = .ok (.aload_n 0, 1) := by decide +kernel
theorem d_R_tellsOf_16 : decode I_R_tellsOf.2.1 16 = .ok (.getfield 16, 3) := by decide +kernel
theorem d_R_tellsOf_19 : decode I_R_tellsOf.2.1 19 = .ok (.iconst 1, 1) := by decide +kernel
theorem d_R_tellsOf_20 : decode I_R_tellsOf.2.1 20 = .ok (.iaload, 1) := by decide +kernel
theorem d_R_tellsOf_21 : decode I_R_tellsOf.2.1 21 = .ok (.imul, 1) := by decide +kernel
theorem d_R_tellsOf_22 : decode I_R_tellsOf.2.1 22 = .ok (.iadd, 1) := by decide +kernel
theorem d_R_tellsOf_23 : decode I_R_tellsOf.2.1 23 = .ok (.aload_n 0, 1) := by decide +kernel
theorem d_R_tellsOf_24 : decode I_R_tellsOf.2.1 24 = .ok (.getfield 16, 3) := by decide +kernel
theorem d_R_tellsOf_27 : decode I_R_tellsOf.2.1 27 = .ok (.iconst 2, 1) := by decide +kernel
theorem d_R_tellsOf_28 : decode I_R_tellsOf.2.1 28 = .ok (.iaload, 1) := by decide +kernel
theorem d_R_tellsOf_29 : decode I_R_tellsOf.2.1 29 = .ok (.iadd, 1) := by decide +kernel
theorem d_R_tellsOf_30 : decode I_R_tellsOf.2.1 30 = .ok (.istore_n 3, 1) := by decide +kernel
theorem d_R_tellsOf_31 : decode I_R_tellsOf.2.1 31 = .ok (.iconst 0, 1) := by decide +kernel
theorem d_R_tellsOf_32 : decode I_R_tellsOf.2.1 32 = .ok (.istore 4, 2) := by decide +kernel
theorem d_R_tellsOf_34 : decode I_R_tellsOf.2.1 34 = .ok (.iconst (-1), 1) := by decide +kernel
theorem d_R_tellsOf_35 : decode I_R_tellsOf.2.1 35 = .ok (.istore 5, 2) := by decide +kernel
theorem d_R_tellsOf_37 : decode I_R_tellsOf.2.1 37 = .ok (.iconst 0, 1) := by decide +kernel
theorem d_R_tellsOf_38 : decode I_R_tellsOf.2.1 38 = .ok (.istore 6, 2) := by decide +kernel
theorem d_R_tellsOf_40 : decode I_R_tellsOf.2.1 40 = .ok (.iload 6, 2) := by decide +kernel
theorem d_R_tellsOf_42 : decode I_R_tellsOf.2.1 42 = .ok (.iconst 3, 1) := by decide +kernel
theorem d_R_tellsOf_43 : decode I_R_tellsOf.2.1 43 = .ok (.if_icmp .ge 186, 3) := by decide +kernel
theorem d_R_tellsOf_46 : decode I_R_tellsOf.2.1 46 = .ok (.iconst 0, 1) := by decide +kernel
theorem d_R_tellsOf_47 : decode I_R_tellsOf.2.1 47 = .ok (.istore 7, 2) := by decide +kernel
theorem d_R_tellsOf_49 : decode I_R_tellsOf.2.1 49 = .ok (.iconst 0, 1) := by decide +kernel
theorem d_R_tellsOf_50 : decode I_R_tellsOf.2.1 50 = .ok (.istore 8, 2) := by decide +kernel
theorem d_R_tellsOf_52 : decode I_R_tellsOf.2.1 52 = .ok (.iload 8, 2) := by decide +kernel
theorem d_R_tellsOf_54 : decode I_R_tellsOf.2.1 54 = .ok (.bipush 7, 2) := by decide +kernel
theorem d_R_tellsOf_56 : decode I_R_tellsOf.2.1 56 = .ok (.if_icmp .ge 17, 3) := by decide +kernel
theorem d_R_tellsOf_59 : decode I_R_tellsOf.2.1 59 = .ok (.aload_n 0, 1) := by decide +kernel
theorem d_R_tellsOf_60 : decode I_R_tellsOf.2.1 60 = .ok (.getfield 65, 3) := by decide +kernel
theorem d_R_tellsOf_63 : decode I_R_tellsOf.2.1 63 = .ok (.iload 8, 2) := by decide +kernel
theorem d_R_tellsOf_65 : decode I_R_tellsOf.2.1 65 = .ok (.iconst 0, 1) := by decide +kernel
theorem d_R_tellsOf_66 : decode I_R_tellsOf.2.1 66 = .ok (.iastore, 1) := by decide +kernel
theorem d_R_tellsOf_67 : decode I_R_tellsOf.2.1 67 = .ok (.iinc 8 1, 3) := by decide +kernel
theorem d_R_tellsOf_70 : decode I_R_tellsOf.2.1 70 = .ok (.goto (-18), 3) := by decide +kernel
theorem d_R_tellsOf_73 : decode I_R_tellsOf.2.1 73 = .ok (.aload_n 0, 1) := by decide +kernel
theorem d_R_tellsOf_74 : decode I_R_tellsOf.2.1 74 = .ok (.invokevirtual 172, 3) := by decide +kernel
theorem d_R_tellsOf_77 : decode I_R_tellsOf.2.1 77 = .ok (.aload_n 0, 1) := by decide +kernel
theorem d_R_tellsOf_78 : decode I_R_tellsOf.2.1 78 = .ok (.iload_n 1, 1) := by decide +kernel
theorem d_R_tellsOf_79 : decode I_R_tellsOf.2.1 79 = .ok (.iload_n 2, 1) := by decide +kernel
theorem d_R_tellsOf_80 : decode I_R_tellsOf.2.1 80 = .ok (.iload 6, 2) := by decide +kernel
theorem d_R_tellsOf_82 : decode I_R_tellsOf.2.1 82 = .ok (.invokevirtual 216, 3) := by decide +kernel
theorem d_R_tellsOf_85 : decode I_R_tellsOf.2.1 85 = .ok (.iconst 0, 1) := by decide +kernel
theorem d_R_tellsOf_86 : decode I_R_tellsOf.2.1 86 = .ok (.istore 8, 2) := by decide +kernel
theorem d_R_tellsOf_88 : decode I_R_tellsOf.2.1 88 = .ok (.iload 8, 2) := by decide +kernel
theorem d_R_tellsOf_90 : decode I_R_tellsOf.2.1 90 = .ok (.sipush 1000, 3) := by decide +kernel
theorem d_R_tellsOf_93 : decode I_R_tellsOf.2.1 93 = .ok (.if_icmp .ge 86, 3) := by decide +kernel
theorem d_R_tellsOf_96 : decode I_R_tellsOf.2.1 96 = .ok (.aload_n 0, 1) := by decide +kernel
theorem d_R_tellsOf_97 : decode I_R_tellsOf.2.1 97 = .ok (.getfield 62, 3) := by decide +kernel
theorem d_R_tellsOf_100 : decode I_R_tellsOf.2.1 100 = .ok (.iload 8, 2) := by decide +kernel
theorem d_R_tellsOf_102 : decode I_R_tellsOf.2.1 102 = .ok (.baload, 1) := by decide +kernel
theorem d_R_tellsOf_103 : decode I_R_tellsOf.2.1 103 = .ok (.ifCond .eq 70, 3) := by decide +kernel
theorem d_R_tellsOf_106 : decode I_R_tellsOf.2.1 106 = .ok (.aload_n 0, 1) := by decide +kernel
theorem d_R_tellsOf_107 : decode I_R_tellsOf.2.1 107 = .ok (.iload 8, 2) := by decide +kernel
theorem d_R_tellsOf_109 : decode I_R_tellsOf.2.1 109 = .ok (.invokevirtual 249, 3) := by decide +kernel
theorem d_R_tellsOf_112 : decode I_R_tellsOf.2.1 112 = .ok (.aload_n 0, 1) := by decide +kernel
theorem d_R_tellsOf_113 : decode I_R_tellsOf.2.1 113 = .ok (.iconst 0, 1) := by decide +kernel
theorem d_R_tellsOf_114 : decode I_R_tellsOf.2.1 114 = .ok (.iload_n 1, 1) := by decide +kernel
theorem d_R_tellsOf_115 : decode I_R_tellsOf.2.1 115 = .ok (.invokevirtual 175, 3) := by decide +kernel
theorem d_R_tellsOf_118 : decode I_R_tellsOf.2.1 118 = .ok (.aload_n 0, 1) := by decide +kernel
theorem d_R_tellsOf_119 : decode I_R_tellsOf.2.1 119 = .ok (.getfield 65, 3) := by decide +kernel
theorem d_R_tellsOf_122 : decode I_R_tellsOf.2.1 122 = .ok (.aload_n 0, 1) := by decide +kernel
theorem d_R_tellsOf_123 : decode I_R_tellsOf.2.1 123 = .ok (.getfield 43, 3) := by decide +kernel
theorem d_R_tellsOf_126 : decode I_R_tellsOf.2.1 126 = .ok (.iload_n 1, 1) := by decide +kernel
theorem d_R_tellsOf_127 : decode I_R_tellsOf.2.1 127 = .ok (.iaload, 1) := by decide +kernel
theorem d_R_tellsOf_128 : decode I_R_tellsOf.2.1 128 = .ok (.iconst 1, 1) := by decide +kernel
theorem d_R_tellsOf_129 : decode I_R_tellsOf.2.1 129 = .ok (.iadd, 1) := by decide +kernel
theorem d_R_tellsOf_130 : decode I_R_tellsOf.2.1 130 = .ok (.dup2, 1) := by decide +kernel
theorem d_R_tellsOf_131 : decode I_R_tellsOf.2.1 131 = .ok (.iaload, 1) := by decide +kernel
theorem d_R_tellsOf_132 : decode I_R_tellsOf.2.1 132 = .ok (.iconst 1, 1) := by decide +kernel
theorem d_R_tellsOf_133 : decode I_R_tellsOf.2.1 133 = .ok (.iadd, 1) := by decide +kernel
theorem d_R_tellsOf_134 : decode I_R_tellsOf.2.1 134 = .ok (.iastore, 1) := by decide +kernel
theorem d_R_tellsOf_135 : decode I_R_tellsOf.2.1 135 = .ok (.aload_n 0, 1) := by decide +kernel
theorem d_R_tellsOf_136 : decode I_R_tellsOf.2.1 136 = .ok (.getfield 65, 3) := by decide +kernel
theorem d_R_tellsOf_139 : decode I_R_tellsOf.2.1 139 = .ok (.aload_n 0, 1) := by decide +kernel
theorem d_R_tellsOf_140 : decode I_R_tellsOf.2.1 140 = .ok (.getfield 43, 3) := by decide +kernel
theorem d_R_tellsOf_143 : decode I_R_tellsOf.2.1 143 = .ok (.iload_n 1, 1) := by decide +kernel
theorem d_R_tellsOf_144 : decode I_R_tellsOf.2.1 144 = .ok (.iaload, 1) := by decide +kernel
theorem d_R_tellsOf_145 : decode I_R_tellsOf.2.1 145 = .ok (.iconst 1, 1) := by decide +kernel
theorem d_R_tellsOf_146 : decode I_R_tellsOf.2.1 146 = .ok (.iadd, 1) := by decide +kernel
theorem d_R_tellsOf_147 : decode I_R_tellsOf.2.1 147 = .ok (.iaload, 1) := by decide +kernel
theorem d_R_tellsOf_148 : decode I_R_tellsOf.2.1 148 = .ok (.iload 7, 2) := by decide +kernel
theorem d_R_tellsOf_150 : decode I_R_tellsOf.2.1 150 = .ok (.if_icmp .le 19, 3) := by decide +kernel
theorem d_R_tellsOf_153 : decode I_R_tellsOf.2.1 153 = .ok (.aload_n 0, 1) := by decide +kernel
theorem d_R_tellsOf_154 : decode I_R_tellsOf.2.1 154 = .ok (.getfield 65, 3) := by decide +kernel
theorem d_R_tellsOf_157 : decode I_R_tellsOf.2.1 157 = .ok (.aload_n 0, 1) := by decide +kernel
theorem d_R_tellsOf_158 : decode I_R_tellsOf.2.1 158 = .ok (.getfield 43, 3) := by decide +kernel
theorem d_R_tellsOf_161 : decode I_R_tellsOf.2.1 161 = .ok (.iload_n 1, 1) := by decide +kernel
theorem d_R_tellsOf_162 : decode I_R_tellsOf.2.1 162 = .ok (.iaload, 1) := by decide +kernel
theorem d_R_tellsOf_163 : decode I_R_tellsOf.2.1 163 = .ok (.iconst 1, 1) := by decide +kernel
theorem d_R_tellsOf_164 : decode I_R_tellsOf.2.1 164 = .ok (.iadd, 1) := by decide +kernel
theorem d_R_tellsOf_165 : decode I_R_tellsOf.2.1 165 = .ok (.iaload, 1) := by decide +kernel
theorem d_R_tellsOf_166 : decode I_R_tellsOf.2.1 166 = .ok (.goto 5, 3) := by decide +kernel
theorem d_R_tellsOf_169 : decode I_R_tellsOf.2.1 169 = .ok (.iload 7, 2) := by decide +kernel
theorem d_R_tellsOf_171 : decode I_R_tellsOf.2.1 171 = .ok (.istore 7, 2) := by decide +kernel
theorem d_R_tellsOf_173 : decode I_R_tellsOf.2.1 173 = .ok (.iinc 8 1, 3) := by decide +kernel
theorem d_R_tellsOf_176 : decode I_R_tellsOf.2.1 176 = .ok (.goto (-88), 3) := by decide +kernel
theorem d_R_tellsOf_179 : decode I_R_tellsOf.2.1 179 = .ok (.iload 5, 2) := by decide +kernel
theorem d_R_tellsOf_181 : decode I_R_tellsOf.2.1 181 = .ok (.iconst (-1), 1) := by decide +kernel
theorem d_R_tellsOf_182 : decode I_R_tellsOf.2.1 182 = .ok (.if_icmp .eq 10, 3) := by decide +kernel
theorem d_R_tellsOf_185 : decode I_R_tellsOf.2.1 185 = .ok (.iload 7, 2) := by decide +kernel
theorem d_R_tellsOf_187 : decode I_R_tellsOf.2.1 187 = .ok (.iload 5, 2) := by decide +kernel
theorem d_R_tellsOf_189 : decode I_R_tellsOf.2.1 189 = .ok (.if_icmp .ge 8, 3) := by decide +kernel
theorem d_R_tellsOf_192 : decode I_R_tellsOf.2.1 192 = .ok (.iload 6, 2) := by decide +kernel
theorem d_R_tellsOf_194 : decode I_R_tellsOf.2.1 194 = .ok (.goto 5, 3) := by decide +kernel
theorem d_R_tellsOf_197 : decode I_R_tellsOf.2.1 197 = .ok (.iload 4, 2) := by decide +kernel
theorem d_R_tellsOf_199 : decode I_R_tellsOf.2.1 199 = .ok (.istore 4, 2) := by decide +kernel
theorem d_R_tellsOf_201 : decode I_R_tellsOf.2.1 201 = .ok (.iload 5, 2) := by decide +kernel
theorem d_R_tellsOf_203 : decode I_R_tellsOf.2.1 203 = .ok (.iconst (-1), 1) := by decide +kernel
theorem d_R_tellsOf_204 : decode I_R_tellsOf.2.1 204 = .ok (.if_icmp .eq 10, 3) := by decide +kernel
theorem d_R_tellsOf_207 : decode I_R_tellsOf.2.1 207 = .ok (.iload 7, 2) := by decide +kernel
theorem d_R_tellsOf_209 : decode I_R_tellsOf.2.1 209 = .ok (.iload 5, 2) := by decide +kernel
theorem d_R_tellsOf_211 : decode I_R_tellsOf.2.1 211 = .ok (.if_icmp .ge 8, 3) := by decide +kernel
theorem d_R_tellsOf_214 : decode I_R_tellsOf.2.1 214 = .ok (.iload 7, 2) := by decide +kernel
theorem d_R_tellsOf_216 : decode I_R_tellsOf.2.1 216 = .ok (.goto 5, 3) := by decide +kernel
theorem d_R_tellsOf_219 : decode I_R_tellsOf.2.1 219 = .ok (.iload 5, 2) := by decide +kernel
theorem d_R_tellsOf_221 : decode I_R_tellsOf.2.1 221 = .ok (.istore 5, 2) := by decide +kernel
theorem d_R_tellsOf_223 : decode I_R_tellsOf.2.1 223 = .ok (.iinc 6 1, 3) := by decide +kernel
theorem d_R_tellsOf_226 : decode I_R_tellsOf.2.1 226 = .ok (.goto (-186), 3) := by decide +kernel
theorem d_R_tellsOf_229 : decode I_R_tellsOf.2.1 229 = .ok (.aload_n 0, 1) := by decide +kernel
theorem d_R_tellsOf_230 : decode I_R_tellsOf.2.1 230 = .ok (.iload_n 3, 1) := by decide +kernel
theorem d_R_tellsOf_231 : decode I_R_tellsOf.2.1 231 = .ok (.invokevirtual 249, 3) := by decide +kernel
theorem d_R_tellsOf_234 : decode I_R_tellsOf.2.1 234 = .ok (.iload 4, 2) := by decide +kernel
theorem d_R_tellsOf_236 : decode I_R_tellsOf.2.1 236 = .ok (.ireturn, 1) := by decide +kernel
theorem d_R_tells_0 : decode I_R_tells.2.1 0 = .ok (.iload_n 1, 1) := by decide +kernel
theorem d_R_tells_1 : decode I_R_tells.2.1 1 = .ok (.invokestatic 126, 3) := by decide +kernel
theorem d_R_tells_4 : decode I_R_tells.2.1 4 = .ok (.ifCond .eq 20, 3) := by decide +kernel
theorem d_R_tells_7 : decode I_R_tells.2.1 7 = .ok (.aload_n 0, 1) := by decide +kernel
theorem d_R_tells_8 : decode I_R_tells.2.1 8 = .ok (.iload_n 2, 1) := by decide +kernel
theorem d_R_tells_9 : decode I_R_tells.2.1 9 = .ok (.invokevirtual 112, 3) := by decide +kernel
theorem d_R_tells_12 : decode I_R_tells.2.1 12 = .ok (.ifCond .eq 12, 3) := by decide +kernel
theorem d_R_tells_15 : decode I_R_tells.2.1 15 = .ok (.aload_n 0, 1) := by decide +kernel
theorem d_R_tells_16 : decode I_R_tells.2.1 16 = .ok (.iload_n 1, 1) := by decide +kernel
theorem d_R_tells_17 : decode I_R_tells.2.1 17 = .ok (.iload_n 2, 1) := by decide +kernel
theorem d_R_tells_18 : decode I_R_tells.2.1 18 = .ok (.invokevirtual 266, 3) := by decide +kernel
theorem d_R_tells_21 : decode I_R_tells.2.1 21 = .ok (.goto 5, 3) := by decide +kernel
theorem d_R_tells_24 : decode I_R_tells.2.1 24 = .ok (.bipush (-2), 2) := by decide +kernel
theorem d_R_tells_26 : decode I_R_tells.2.1 26 = .ok (.ireturn, 1) := by decide +kernel
theorem d_R_trainerNow_0 : decode I_R_trainerNow.2.1 0 = .ok (.aload_n 0, 1) := by decide +kernel
theorem d_R_trainerNow_1 : decode I_R_trainerNow.2.1 1 = .ok (.invokevirtual 109, 3) := by decide +kernel
theorem d_R_trainerNow_4 : decode I_R_trainerNow.2.1 4 = .ok (.aload_n 0, 1) := by decide +kernel
theorem d_R_trainerNow_5 : decode I_R_trainerNow.2.1 5 = .ok (.invokevirtual 172, 3) := by decide +kernel
theorem d_R_trainerNow_8 : decode I_R_trainerNow.2.1 8 = .ok (.iconst 0, 1) := by decide +kernel
theorem d_R_trainerNow_9 : decode I_R_trainerNow.2.1 9 = .ok (.istore_n 1, 1) := by decide +kernel
theorem d_R_trainerNow_10 : decode I_R_trainerNow.2.1 10 = .ok (.iconst (-1), 1) := by decide +kernel
theorem d_R_trainerNow_11 : decode I_R_trainerNow.2.1 11 = .ok (.istore_n 2, 1) := by decide +kernel
theorem d_R_trainerNow_12 : decode I_R_trainerNow.2.1 12 = .ok (.iload_n 2, 1) := by decide +kernel
theorem d_R_trainerNow_13 : decode I_R_trainerNow.2.1 13 = .ok (.aload_n 0, 1) := by decide +kernel
theorem d_R_trainerNow_14 : decode I_R_trainerNow.2.1 14 = .ok (.getfield 102, 3) := by decide +kernel
theorem d_R_trainerNow_17 : decode I_R_trainerNow.2.1 17 = .ok (.if_icmp .ge 48, 3) := by decide +kernel
theorem d_R_trainerNow_20 : decode I_R_trainerNow.2.1 20 = .ok (.aload_n 0, 1) := by decide +kernel
theorem d_R_trainerNow_21 : decode I_R_trainerNow.2.1 21 = .ok (.iload_n 2, 1) := by decide +kernel
theorem d_R_trainerNow_22 : decode I_R_trainerNow.2.1 22 = .ok (.putfield 152, 3) := by decide +kernel
theorem d_R_trainerNow_25 : decode I_R_trainerNow.2.1 25 = .ok (.aload_n 0, 1) := by decide +kernel
theorem d_R_trainerNow_26 : decode I_R_trainerNow.2.1 26 = .ok (.iconst 0, 1) := by decide +kernel
theorem d_R_trainerNow_27 : decode I_R_trainerNow.2.1 27 = .ok (.bipush 29, 2) := by decide +kernel
theorem d_R_trainerNow_29 : decode I_R_trainerNow.2.1 29 = .ok (.invokevirtual 175, 3) := by decide +kernel
theorem d_R_trainerNow_32 : decode I_R_trainerNow.2.1 32 = .ok (.iload_n 1, 1) := by decide +kernel
theorem d_R_trainerNow_33 : decode I_R_trainerNow.2.1 33 = .ok (.aload_n 0, 1) := by decide +kernel
theorem d_R_trainerNow_34 : decode I_R_trainerNow.2.1 34 = .ok (.invokevirtual 256, 3) := by decide +kernel
theorem d_R_trainerNow_37 : decode I_R_trainerNow.2.1 37 = .ok (.ifCond .eq 19, 3) := by decide +kernel
theorem d_R_trainerNow_40 : decode I_R_trainerNow.2.1 40 = .ok (.iconst 1, 1) := by decide +kernel
theorem d_R_trainerNow_41 : decode I_R_trainerNow.2.1 41 = .ok (.iload_n 2, 1) := by decide +kernel
theorem d_R_trainerNow_42 : decode I_R_trainerNow.2.1 42 = .ok (.iconst (-1), 1) := by decide +kernel
theorem d_R_trainerNow_43 : decode I_R_trainerNow.2.1 43 = .ok (.if_icmp .ne 8, 3) := by decide +kernel
theorem d_R_trainerNow_46 : decode I_R_trainerNow.2.1 46 = .ok (.bipush 6, 2) := by decide +kernel
theorem d_R_trainerNow_48 : decode I_R_trainerNow.2.1 48 = .ok (.goto 4, 3) := by decide +kernel
theorem d_R_trainerNow_51 : decode I_R_trainerNow.2.1 51 = .ok (.iload_n 2, 1) := by decide +kernel
theorem d_R_trainerNow_52 : decode I_R_trainerNow.2.1 52 = .ok (.ishl, 1) := by decide +kernel
theorem d_R_trainerNow_53 : decode I_R_trainerNow.2.1 53 = .ok (.goto 4, 3) := by decide +kernel
theorem d_R_trainerNow_56 : decode I_R_trainerNow.2.1 56 = .ok (.iconst 0, 1) := by decide +kernel
theorem d_R_trainerNow_57 : decode I_R_trainerNow.2.1 57 = .ok (.ior, 1) := by decide +kernel
theorem d_R_trainerNow_58 : decode I_R_trainerNow.2.1 58 = .ok (.istore_n 1, 1) := by decide +kernel
theorem d_R_trainerNow_59 : decode I_R_trainerNow.2.1 59 = .ok (.iinc 2 1, 3) := by decide +kernel
theorem d_R_trainerNow_62 : decode I_R_trainerNow.2.1 62 = .ok (.goto (-50), 3) := by decide +kernel
theorem d_R_trainerNow_65 : decode I_R_trainerNow.2.1 65 = .ok (.iload_n 1, 1) := by decide +kernel
theorem d_R_trainerNow_66 : decode I_R_trainerNow.2.1 66 = .ok (.ireturn, 1) := by decide +kernel
theorem d_R_trainer_0 : decode I_R_trainer.2.1 0 = .ok (.aload_n 0, 1) := by decide +kernel
theorem d_R_trainer_1 : decode I_R_trainer.2.1 1 = .ok (.invokevirtual 269, 3) := by decide +kernel
theorem d_R_trainer_4 : decode I_R_trainer.2.1 4 = .ok (.ireturn, 1) := by decide +kernel
theorem d_R_chanceBy_0 : decode I_R_chanceBy.2.1 0 = .ok (.lconst 0, 1) := by decide +kernel
theorem d_R_chanceBy_1 : decode I_R_chanceBy.2.1 1 = .ok (.lstore 4, 2) := by decide +kernel
theorem d_R_chanceBy_3 : decode I_R_chanceBy.2.1 3 = .ok (.iconst 0, 1) := by decide +kernel
theorem d_R_chanceBy_4 : decode I_R_chanceBy.2.1 4 = .ok (.istore 6, 2) := by decide +kernel
theorem d_R_chanceBy_6 : decode I_R_chanceBy.2.1 6 = .ok (.iload 6, 2) := by decide +kernel
theorem d_R_chanceBy_8 : decode I_R_chanceBy.2.1 8 = .ok (.iconst 2, 1) := by decide +kernel
theorem d_R_chanceBy_9 : decode I_R_chanceBy.2.1 9 = .ok (.iload_n 3, 1) := by decide +kernel
theorem d_R_chanceBy_10 : decode I_R_chanceBy.2.1 10 = .ok (.ishl, 1) := by decide +kernel
theorem d_R_chanceBy_11 : decode I_R_chanceBy.2.1 11 = .ok (.if_icmp .ge 92, 3) := by decide +kernel
theorem d_R_chanceBy_14 : decode I_R_chanceBy.2.1 14 = .ok (.lconst 1, 1) := by decide +kernel
theorem d_R_chanceBy_15 : decode I_R_chanceBy.2.1 15 = .ok (.lstore 7, 2) := by decide +kernel
theorem d_R_chanceBy_17 : decode I_R_chanceBy.2.1 17 = .ok (.iconst 0, 1) := by decide +kernel
theorem d_R_chanceBy_18 : decode I_R_chanceBy.2.1 18 = .ok (.istore 9, 2) := by decide +kernel
theorem d_R_chanceBy_20 : decode I_R_chanceBy.2.1 20 = .ok (.iload 9, 2) := by decide +kernel
theorem d_R_chanceBy_22 : decode I_R_chanceBy.2.1 22 = .ok (.iload_n 3, 1) := by decide +kernel
theorem d_R_chanceBy_23 : decode I_R_chanceBy.2.1 23 = .ok (.if_icmp .gt 34, 3) := by decide +kernel
theorem d_R_chanceBy_26 : decode I_R_chanceBy.2.1 26 = .ok (.lload 7, 2) := by decide +kernel
theorem d_R_chanceBy_28 : decode I_R_chanceBy.2.1 28 = .ok (.iload 6, 2) := by decide +kernel
theorem d_R_chanceBy_30 : decode I_R_chanceBy.2.1 30 = .ok (.iload 9, 2) := by decide +kernel
theorem d_R_chanceBy_32 : decode I_R_chanceBy.2.1 32 = .ok (.invokestatic 155, 3) := by decide +kernel
theorem d_R_chanceBy_35 : decode I_R_chanceBy.2.1 35 = .ok (.ifCond .eq 8, 3) := by decide +kernel
theorem d_R_chanceBy_38 : decode I_R_chanceBy.2.1 38 = .ok (.iload_n 1, 1) := by decide +kernel
theorem d_R_chanceBy_39 : decode I_R_chanceBy.2.1 39 = .ok (.i2l, 1) := by decide +kernel
theorem d_R_chanceBy_40 : decode I_R_chanceBy.2.1 40 = .ok (.goto 8, 3) := by decide +kernel
theorem d_R_chanceBy_43 : decode I_R_chanceBy.2.1 43 = .ok (.bipush 16, 2) := by decide +kernel
theorem d_R_chanceBy_45 : decode I_R_chanceBy.2.1 45 = .ok (.iload_n 1, 1) := by decide +kernel
theorem d_R_chanceBy_46 : decode I_R_chanceBy.2.1 46 = .ok (.isub, 1) := by decide +kernel
theorem d_R_chanceBy_47 : decode I_R_chanceBy.2.1 47 = .ok (.i2l, 1) := by decide +kernel
theorem d_R_chanceBy_48 : decode I_R_chanceBy.2.1 48 = .ok (.lmul, 1) := by decide +kernel
theorem d_R_chanceBy_49 : decode I_R_chanceBy.2.1 49 = .ok (.lstore 7, 2) := by decide +kernel
theorem d_R_chanceBy_51 : decode I_R_chanceBy.2.1 51 = .ok (.iinc 9 1, 3) := by decide +kernel
theorem d_R_chanceBy_54 : decode I_R_chanceBy.2.1 54 = .ok (.goto (-34), 3) := by decide +kernel
theorem d_R_chanceBy_57 : decode I_R_chanceBy.2.1 57 = .ok (.lload 7, 2) := by decide +kernel
theorem d_R_chanceBy_59 : decode I_R_chanceBy.2.1 59 = .ok (.lconst 0, 1) := by decide +kernel
theorem d_R_chanceBy_60 : decode I_R_chanceBy.2.1 60 = .ok (.lcmp, 1) := by decide +kernel
theorem d_R_chanceBy_61 : decode I_R_chanceBy.2.1 61 = .ok (.ifCond .le 36, 3) := by decide +kernel
theorem d_R_chanceBy_64 : decode I_R_chanceBy.2.1 64 = .ok (.aload_n 0, 1) := by decide +kernel
theorem d_R_chanceBy_65 : decode I_R_chanceBy.2.1 65 = .ok (.iload 6, 2) := by decide +kernel
theorem d_R_chanceBy_67 : decode I_R_chanceBy.2.1 67 = .ok (.putfield 149, 3) := by decide +kernel
theorem d_R_chanceBy_70 : decode I_R_chanceBy.2.1 70 = .ok (.aload_n 0, 1) := by decide +kernel
theorem d_R_chanceBy_71 : decode I_R_chanceBy.2.1 71 = .ok (.iconst 0, 1) := by decide +kernel
theorem d_R_chanceBy_72 : decode I_R_chanceBy.2.1 72 = .ok (.iload_n 3, 1) := by decide +kernel
theorem d_R_chanceBy_73 : decode I_R_chanceBy.2.1 73 = .ok (.invokevirtual 175, 3) := by decide +kernel
theorem d_R_chanceBy_76 : decode I_R_chanceBy.2.1 76 = .ok (.lload 4, 2) := by decide +kernel
theorem d_R_chanceBy_78 : decode I_R_chanceBy.2.1 78 = .ok (.aload_n 0, 1) := by decide +kernel
theorem d_R_chanceBy_79 : decode I_R_chanceBy.2.1 79 = .ok (.getfield 43, 3) := by decide +kernel
theorem d_R_chanceBy_82 : decode I_R_chanceBy.2.1 82 = .ok (.iload_n 3, 1) := by decide +kernel
theorem d_R_chanceBy_83 : decode I_R_chanceBy.2.1 83 = .ok (.iaload, 1) := by decide +kernel
theorem d_R_chanceBy_84 : decode I_R_chanceBy.2.1 84 = .ok (.iload_n 2, 1) := by decide +kernel
theorem d_R_chanceBy_85 : decode I_R_chanceBy.2.1 85 = .ok (.if_icmp .ne 8, 3) := by decide +kernel
theorem d_R_chanceBy_88 : decode I_R_chanceBy.2.1 88 = .ok (.lload 7, 2) := by decide +kernel
theorem d_R_chanceBy_90 : decode I_R_chanceBy.2.1 90 = .ok (.goto 4, 3) := by decide +kernel
theorem d_R_chanceBy_93 : decode I_R_chanceBy.2.1 93 = .ok (.lconst 0, 1) := by decide +kernel
theorem d_R_chanceBy_94 : decode I_R_chanceBy.2.1 94 = .ok (.ladd, 1) := by decide +kernel
theorem d_R_chanceBy_95 : decode I_R_chanceBy.2.1 95 = .ok (.lstore 4, 2) := by decide +kernel
theorem d_R_chanceBy_97 : decode I_R_chanceBy.2.1 97 = .ok (.iinc 6 1, 3) := by decide +kernel
theorem d_R_chanceBy_100 : decode I_R_chanceBy.2.1 100 = .ok (.goto (-94), 3) := by decide +kernel
theorem d_R_chanceBy_103 : decode I_R_chanceBy.2.1 103 = .ok (.lload 4, 2) := by decide +kernel
theorem d_R_chanceBy_105 : decode I_R_chanceBy.2.1 105 = .ok (.lreturn, 1) := by decide +kernel
theorem d_R_chanceOf_0 : decode I_R_chanceOf.2.1 0 = .ok (.aload_n 0, 1) := by decide +kernel
theorem d_R_chanceOf_1 : decode I_R_chanceOf.2.1 1 = .ok (.invokevirtual 109, 3) := by decide +kernel
theorem d_R_chanceOf_4 : decode I_R_chanceOf.2.1 4 = .ok (.aload_n 0, 1) := by decide +kernel
theorem d_R_chanceOf_5 : decode I_R_chanceOf.2.1 5 = .ok (.invokevirtual 172, 3) := by decide +kernel
theorem d_R_chanceOf_8 : decode I_R_chanceOf.2.1 8 = .ok (.aload_n 0, 1) := by decide +kernel
theorem d_R_chanceOf_9 : decode I_R_chanceOf.2.1 9 = .ok (.iload_n 1, 1) := by decide +kernel
theorem d_R_chanceOf_10 : decode I_R_chanceOf.2.1 10 = .ok (.iload_n 2, 1) := by decide +kernel
theorem d_R_chanceOf_11 : decode I_R_chanceOf.2.1 11 = .ok (.iload_n 3, 1) := by decide +kernel
theorem d_R_chanceOf_12 : decode I_R_chanceOf.2.1 12 = .ok (.invokevirtual 272, 3) := by decide +kernel
theorem d_R_chanceOf_15 : decode I_R_chanceOf.2.1 15 = .ok (.lconst 1, 1) := by decide +kernel
theorem d_R_chanceOf_16 : decode I_R_chanceOf.2.1 16 = .ok (.iconst 4, 1) := by decide +kernel
theorem d_R_chanceOf_17 : decode I_R_chanceOf.2.1 17 = .ok (.iload_n 3, 1) := by decide +kernel
theorem d_R_chanceOf_18 : decode I_R_chanceOf.2.1 18 = .ok (.iconst 1, 1) := by decide +kernel
theorem d_R_chanceOf_19 : decode I_R_chanceOf.2.1 19 = .ok (.iadd, 1) := by decide +kernel
theorem d_R_chanceOf_20 : decode I_R_chanceOf.2.1 20 = .ok (.imul, 1) := by decide +kernel
theorem d_R_chanceOf_21 : decode I_R_chanceOf.2.1 21 = .ok (.lshl, 1) := by decide +kernel
theorem d_R_chanceOf_22 : decode I_R_chanceOf.2.1 22 = .ok (.iload 4, 2) := by decide +kernel
theorem d_R_chanceOf_24 : decode I_R_chanceOf.2.1 24 = .ok (.invokestatic 193, 3) := by decide +kernel
theorem d_R_chanceOf_27 : decode I_R_chanceOf.2.1 27 = .ok (.lreturn, 1) := by decide +kernel
theorem d_R_isChance_0 : decode I_R_isChance.2.1 0 = .ok (.iload_n 1, 1) := by decide +kernel
theorem d_R_isChance_1 : decode I_R_isChance.2.1 1 = .ok (.iconst 0, 1) := by decide +kernel
theorem d_R_isChance_2 : decode I_R_isChance.2.1 2 = .ok (.bipush 16, 2) := by decide +kernel
theorem d_R_isChance_4 : decode I_R_isChance.2.1 4 = .ok (.invokestatic 95, 3) := by decide +kernel
theorem d_R_isChance_7 : decode I_R_isChance.2.1 7 = .ok (.ifCond .eq 25, 3) := by decide +kernel
theorem d_R_isChance_10 : decode I_R_isChance.2.1 10 = .ok (.aload_n 0, 1) := by decide +kernel
theorem d_R_isChance_11 : decode I_R_isChance.2.1 11 = .ok (.iload_n 2, 1) := by decide +kernel
theorem d_R_isChance_12 : decode I_R_isChance.2.1 12 = .ok (.invokevirtual 112, 3) := by decide +kernel
theorem d_R_isChance_15 : decode I_R_isChance.2.1 15 = .ok (.ifCond .eq 17, 3) := by decide +kernel
theorem d_R_isChance_18 : decode I_R_isChance.2.1 18 = .ok (.iload_n 3, 1) := by decide +kernel
theorem d_R_isChance_19 : decode I_R_isChance.2.1 19 = .ok (.iconst 0, 1) := by decide +kernel
theorem d_R_isChance_20 : decode I_R_isChance.2.1 20 = .ok (.bipush 9, 2) := by decide +kernel
theorem d_R_isChance_22 : decode I_R_isChance.2.1 22 = .ok (.invokestatic 95, 3) := by decide +kernel
theorem d_R_isChance_25 : decode I_R_isChance.2.1 25 = .ok (.ifCond .eq 7, 3) := by decide +kernel
theorem d_R_isChance_28 : decode I_R_isChance.2.1 28 = .ok (.iconst 1, 1) := by decide +kernel
theorem d_R_isChance_29 : decode I_R_isChance.2.1 29 = .ok (.goto 4, 3) := by decide +kernel
theorem d_R_isChance_32 : decode I_R_isChance.2.1 32 = .ok (.iconst 0, 1) := by decide +kernel
theorem d_R_isChance_33 : decode I_R_isChance.2.1 33 = .ok (.ireturn, 1) := by decide +kernel
theorem d_R_chance_0 : decode I_R_chance.2.1 0 = .ok (.aload_n 0, 1) := by decide +kernel
theorem d_R_chance_1 : decode I_R_chance.2.1 1 = .ok (.iload_n 1, 1) := by decide +kernel
theorem d_R_chance_2 : decode I_R_chance.2.1 2 = .ok (.iload_n 2, 1) := by decide +kernel
theorem d_R_chance_3 : decode I_R_chance.2.1 3 = .ok (.iload_n 3, 1) := by decide +kernel
theorem d_R_chance_4 : decode I_R_chance.2.1 4 = .ok (.invokevirtual 275, 3) := by decide +kernel
theorem d_R_chance_7 : decode I_R_chance.2.1 7 = .ok (.ifCond .eq 25, 3) := by decide +kernel
theorem d_R_chance_10 : decode I_R_chance.2.1 10 = .ok (.iload 4, 2) := by decide +kernel
theorem d_R_chance_12 : decode I_R_chance.2.1 12 = .ok (.iconst 0, 1) := by decide +kernel
theorem d_R_chance_13 : decode I_R_chance.2.1 13 = .ok (.iconst 1, 1) := by decide +kernel
theorem d_R_chance_14 : decode I_R_chance.2.1 14 = .ok (.invokestatic 95, 3) := by decide +kernel
theorem d_R_chance_17 : decode I_R_chance.2.1 17 = .ok (.ifCond .eq 15, 3) := by decide +kernel
theorem d_R_chance_20 : decode I_R_chance.2.1 20 = .ok (.aload_n 0, 1) := by decide +kernel
theorem d_R_chance_21 : decode I_R_chance.2.1 21 = .ok (.iload_n 1, 1) := by decide +kernel
theorem d_R_chance_22 : decode I_R_chance.2.1 22 = .ok (.iload_n 2, 1) := by decide +kernel
theorem d_R_chance_23 : decode I_R_chance.2.1 23 = .ok (.iload_n 3, 1) := by decide +kernel
theorem d_R_chance_24 : decode I_R_chance.2.1 24 = .ok (.iload 4, 2) := by decide +kernel
theorem d_R_chance_26 : decode I_R_chance.2.1 26 = .ok (.invokevirtual 278, 3) := by decide +kernel
theorem d_R_chance_29 : decode I_R_chance.2.1 29 = .ok (.goto 8, 3) := by decide +kernel
theorem d_R_chance_32 : decode I_R_chance.2.1 32 = .ok (.bipush (-2), 2) := by decide +kernel
theorem d_R_chance_34 : decode I_R_chance.2.1 34 = .ok (.invokestatic 189, 3) := by decide +kernel
theorem d_R_chance_37 : decode I_R_chance.2.1 37 = .ok (.lreturn, 1) := by decide +kernel
theorem d_R_heardOf_0 : decode I_R_heardOf.2.1 0 = .ok (.aload_n 0, 1) := by decide +kernel
theorem d_R_heardOf_1 : decode I_R_heardOf.2.1 1 = .ok (.invokevirtual 109, 3) := by decide +kernel
theorem d_R_heardOf_4 : decode I_R_heardOf.2.1 4 = .ok (.iconst (-1), 1) := by decide +kernel
theorem d_R_heardOf_5 : decode I_R_heardOf.2.1 5 = .ok (.istore 5, 2) := by decide +kernel
theorem d_R_heardOf_7 : decode I_R_heardOf.2.1 7 = .ok (.lconst 0, 1) := by decide +kernel
theorem d_R_heardOf_8 : decode I_R_heardOf.2.1 8 = .ok (.lstore 6, 2) := by decide +kernel
theorem d_R_heardOf_10 : decode I_R_heardOf.2.1 10 = .ok (.iconst 0, 1) := by decide +kernel
theorem d_R_heardOf_11 : decode I_R_heardOf.2.1 11 = .ok (.istore 8, 2) := by decide +kernel
theorem d_R_heardOf_13 : decode I_R_heardOf.2.1 13 = .ok (.iload 8, 2) := by decide +kernel
theorem d_R_heardOf_15 : decode I_R_heardOf.2.1 15 = .ok (.iload 4, 2) := by decide +kernel
theorem d_R_heardOf_17 : decode I_R_heardOf.2.1 17 = .ok (.if_icmp .gt 70, 3) := by decide +kernel
theorem d_R_heardOf_20 : decode I_R_heardOf.2.1 20 = .ok (.aload_n 0, 1) := by decide +kernel
theorem d_R_heardOf_21 : decode I_R_heardOf.2.1 21 = .ok (.invokevirtual 172, 3) := by decide +kernel
theorem d_R_heardOf_24 : decode I_R_heardOf.2.1 24 = .ok (.aload_n 0, 1) := by decide +kernel
theorem d_R_heardOf_25 : decode I_R_heardOf.2.1 25 = .ok (.iload 8, 2) := by decide +kernel
theorem d_R_heardOf_27 : decode I_R_heardOf.2.1 27 = .ok (.iload_n 2, 1) := by decide +kernel
theorem d_R_heardOf_28 : decode I_R_heardOf.2.1 28 = .ok (.iload_n 3, 1) := by decide +kernel
theorem d_R_heardOf_29 : decode I_R_heardOf.2.1 29 = .ok (.invokevirtual 216, 3) := by decide +kernel
theorem d_R_heardOf_32 : decode I_R_heardOf.2.1 32 = .ok (.aload_n 0, 1) := by decide +kernel
theorem d_R_heardOf_33 : decode I_R_heardOf.2.1 33 = .ok (.iload_n 1, 1) := by decide +kernel
theorem d_R_heardOf_34 : decode I_R_heardOf.2.1 34 = .ok (.iload_n 2, 1) := by decide +kernel
theorem d_R_heardOf_35 : decode I_R_heardOf.2.1 35 = .ok (.iload 4, 2) := by decide +kernel
theorem d_R_heardOf_37 : decode I_R_heardOf.2.1 37 = .ok (.invokevirtual 272, 3) := by decide +kernel
theorem d_R_heardOf_40 : decode I_R_heardOf.2.1 40 = .ok (.lstore 9, 2) := by decide +kernel
theorem d_R_heardOf_42 : decode I_R_heardOf.2.1 42 = .ok (.iload 5, 2) := by decide +kernel
theorem d_R_heardOf_44 : decode I_R_heardOf.2.1 44 = .ok (.iconst (-1), 1) := by decide +kernel
theorem d_R_heardOf_45 : decode I_R_heardOf.2.1 45 = .ok (.if_icmp .eq 11, 3) := by decide +kernel
theorem d_R_heardOf_48 : decode I_R_heardOf.2.1 48 = .ok (.lload 9, 2) := by decide +kernel
theorem d_R_heardOf_50 : decode I_R_heardOf.2.1 50 = .ok (.lload 6, 2) := by decide +kernel
theorem d_R_heardOf_52 : decode I_R_heardOf.2.1 52 = .ok (.lcmp, 1) := by decide +kernel
theorem d_R_heardOf_53 : decode I_R_heardOf.2.1 53 = .ok (.ifCond .le 8, 3) := by decide +kernel
theorem d_R_heardOf_56 : decode I_R_heardOf.2.1 56 = .ok (.iload 8, 2) := by decide +kernel
theorem d_R_heardOf_58 : decode I_R_heardOf.2.1 58 = .ok (.goto 5, 3) := by decide +kernel
theorem d_R_heardOf_61 : decode I_R_heardOf.2.1 61 = .ok (.iload 5, 2) := by decide +kernel
theorem d_R_heardOf_63 : decode I_R_heardOf.2.1 63 = .ok (.istore 5, 2) := by decide +kernel
theorem d_R_heardOf_65 : decode I_R_heardOf.2.1 65 = .ok (.iload 5, 2) := by decide +kernel
theorem d_R_heardOf_67 : decode I_R_heardOf.2.1 67 = .ok (.iload 8, 2) := by decide +kernel
theorem d_R_heardOf_69 : decode I_R_heardOf.2.1 69 = .ok (.if_icmp .ne 8, 3) := by decide +kernel
theorem d_R_heardOf_72 : decode I_R_heardOf.2.1 72 = .ok (.lload 9, 2) := by decide +kernel
theorem d_R_heardOf_74 : decode I_R_heardOf.2.1 74 = .ok (.goto 5, 3) := by decide +kernel
theorem d_R_heardOf_77 : decode I_R_heardOf.2.1 77 = .ok (.lload 6, 2) := by decide +kernel
theorem d_R_heardOf_79 : decode I_R_heardOf.2.1 79 = .ok (.lstore 6, 2) := by decide +kernel
theorem d_R_heardOf_81 : decode I_R_heardOf.2.1 81 = .ok (.iinc 8 1, 3) := by decide +kernel
theorem d_R_heardOf_84 : decode I_R_heardOf.2.1 84 = .ok (.goto (-71), 3) := by decide +kernel
theorem d_R_heardOf_87 : decode I_R_heardOf.2.1 87 = .ok (.iload 5, 2) := by decide +kernel
theorem d_R_heardOf_89 : decode I_R_heardOf.2.1 89 = .ok (.ireturn, 1) := by decide +kernel
theorem d_R_heard_0 : decode I_R_heard.2.1 0 = .ok (.aload_n 0, 1) := by decide +kernel
theorem d_R_heard_1 : decode I_R_heard.2.1 1 = .ok (.iload_n 1, 1) := by decide +kernel
theorem d_R_heard_2 : decode I_R_heard.2.1 2 = .ok (.iload_n 2, 1) := by decide +kernel
theorem d_R_heard_3 : decode I_R_heard.2.1 3 = .ok (.iload 4, 2) := by decide +kernel
theorem d_R_heard_5 : decode I_R_heard.2.1 5 = .ok (.invokevirtual 275, 3) := by decide +kernel
theorem d_R_heard_8 : decode I_R_heard.2.1 8 = .ok (.ifCond .eq 22, 3) := by decide +kernel
theorem d_R_heard_11 : decode I_R_heard.2.1 11 = .ok (.iload_n 3, 1) := by decide +kernel
theorem d_R_heard_12 : decode I_R_heard.2.1 12 = .ok (.invokestatic 116, 3) := by decide +kernel
theorem d_R_heard_15 : decode I_R_heard.2.1 15 = .ok (.ifCond .eq 15, 3) := by decide +kernel
theorem d_R_heard_18 : decode I_R_heard.2.1 18 = .ok (.aload_n 0, 1) := by decide +kernel
theorem d_R_heard_19 : decode I_R_heard.2.1 19 = .ok (.iload_n 1, 1) := by decide +kernel
theorem d_R_heard_20 : decode I_R_heard.2.1 20 = .ok (.iload_n 2, 1) := by decide +kernel
theorem d_R_heard_21 : decode I_R_heard.2.1 21 = .ok (.iload_n 3, 1) := by decide +kernel
theorem d_R_heard_22 : decode I_R_heard.2.1 22 = .ok (.iload 4, 2) := by decide +kernel
theorem d_R_heard_24 : decode I_R_heard.2.1 24 = .ok (.invokevirtual 282, 3) := by decide +kernel
theorem d_R_heard_27 : decode I_R_heard.2.1 27 = .ok (.goto 5, 3) := by decide +kernel
theorem d_R_heard_30 : decode I_R_heard.2.1 30 = .ok (.bipush (-2), 2) := by decide +kernel
theorem d_R_heard_32 : decode I_R_heard.2.1 32 = .ok (.ireturn, 1) := by decide +kernel
theorem d_R_weeksOf_0 : decode I_R_weeksOf.2.1 0 = .ok (.aload_n 0, 1) := by decide +kernel
theorem d_R_weeksOf_1 : decode I_R_weeksOf.2.1 1 = .ok (.invokevirtual 109, 3) := by decide +kernel
theorem d_R_weeksOf_4 : decode I_R_weeksOf.2.1 4 = .ok (.aload_n 0, 1) := by decide +kernel
theorem d_R_weeksOf_5 : decode I_R_weeksOf.2.1 5 = .ok (.invokevirtual 172, 3) := by decide +kernel
theorem d_R_weeksOf_8 : decode I_R_weeksOf.2.1 8 = .ok (.iload_n 1, 1) := by decide +kernel
theorem d_R_weeksOf_9 : decode I_R_weeksOf.2.1 9 = .ok (.istore 4, 2) := by decide +kernel
theorem d_R_weeksOf_11 : decode I_R_weeksOf.2.1 11 = .ok (.iconst 0, 1) := by decide +kernel
theorem d_R_weeksOf_12 : decode I_R_weeksOf.2.1 12 = .ok (.istore 5, 2) := by decide +kernel
theorem d_R_weeksOf_14 : decode I_R_weeksOf.2.1 14 = .ok (.iload 5, 2) := by decide +kernel
theorem d_R_weeksOf_16 : decode I_R_weeksOf.2.1 16 = .ok (.iload_n 2, 1) := by decide +kernel
theorem d_R_weeksOf_17 : decode I_R_weeksOf.2.1 17 = .ok (.if_icmp .ge 67, 3) := by decide +kernel
theorem d_R_weeksOf_20 : decode I_R_weeksOf.2.1 20 = .ok (.aload_n 0, 1) := by decide +kernel
theorem d_R_weeksOf_21 : decode I_R_weeksOf.2.1 21 = .ok (.getfield 102, 3) := by decide +kernel
theorem d_R_weeksOf_24 : decode I_R_weeksOf.2.1 24 = .ok (.ifCond .le 60, 3) := by decide +kernel
theorem d_R_weeksOf_27 : decode I_R_weeksOf.2.1 27 = .ok (.ldc_w 285, 3) := by decide +kernel
theorem d_R_weeksOf_30 : decode I_R_weeksOf.2.1 30 = .ok (.iload 4, 2) := by decide +kernel
theorem d_R_weeksOf_32 : decode I_R_weeksOf.2.1 32 = .ok (.imul, 1) := by decide +kernel
theorem d_R_weeksOf_33 : decode I_R_weeksOf.2.1 33 = .ok (.sipush 12345, 3) := by decide +kernel
theorem d_R_weeksOf_36 : decode I_R_weeksOf.2.1 36 = .ok (.iadd, 1) := by decide +kernel
theorem d_R_weeksOf_37 : decode I_R_weeksOf.2.1 37 = .ok (.istore 4, 2) := by decide +kernel
theorem d_R_weeksOf_39 : decode I_R_weeksOf.2.1 39 = .ok (.iload 4, 2) := by decide +kernel
theorem d_R_weeksOf_41 : decode I_R_weeksOf.2.1 41 = .ok (.bipush 16, 2) := by decide +kernel
theorem d_R_weeksOf_43 : decode I_R_weeksOf.2.1 43 = .ok (.iushr, 1) := by decide +kernel
theorem d_R_weeksOf_44 : decode I_R_weeksOf.2.1 44 = .ok (.aload_n 0, 1) := by decide +kernel
theorem d_R_weeksOf_45 : decode I_R_weeksOf.2.1 45 = .ok (.getfield 102, 3) := by decide +kernel
theorem d_R_weeksOf_48 : decode I_R_weeksOf.2.1 48 = .ok (.irem, 1) := by decide +kernel
theorem d_R_weeksOf_49 : decode I_R_weeksOf.2.1 49 = .ok (.istore 6, 2) := by decide +kernel
theorem d_R_weeksOf_51 : decode I_R_weeksOf.2.1 51 = .ok (.ldc_w 285, 3) := by decide +kernel
theorem d_R_weeksOf_54 : decode I_R_weeksOf.2.1 54 = .ok (.iload 4, 2) := by decide +kernel
theorem d_R_weeksOf_56 : decode I_R_weeksOf.2.1 56 = .ok (.imul, 1) := by decide +kernel
theorem d_R_weeksOf_57 : decode I_R_weeksOf.2.1 57 = .ok (.sipush 12345, 3) := by decide +kernel
theorem d_R_weeksOf_60 : decode I_R_weeksOf.2.1 60 = .ok (.iadd, 1) := by decide +kernel
theorem d_R_weeksOf_61 : decode I_R_weeksOf.2.1 61 = .ok (.istore 4, 2) := by decide +kernel
theorem d_R_weeksOf_63 : decode I_R_weeksOf.2.1 63 = .ok (.aload_n 0, 1) := by decide +kernel
theorem d_R_weeksOf_64 : decode I_R_weeksOf.2.1 64 = .ok (.iload 5, 2) := by decide +kernel
theorem d_R_weeksOf_66 : decode I_R_weeksOf.2.1 66 = .ok (.iload 6, 2) := by decide +kernel
theorem d_R_weeksOf_68 : decode I_R_weeksOf.2.1 68 = .ok (.iload 4, 2) := by decide +kernel
theorem d_R_weeksOf_70 : decode I_R_weeksOf.2.1 70 = .ok (.bipush 16, 2) := by decide +kernel
theorem d_R_weeksOf_72 : decode I_R_weeksOf.2.1 72 = .ok (.iushr, 1) := by decide +kernel
theorem d_R_weeksOf_73 : decode I_R_weeksOf.2.1 73 = .ok (.iconst 3, 1) := by decide +kernel
theorem d_R_weeksOf_74 : decode I_R_weeksOf.2.1 74 = .ok (.irem, 1) := by decide +kernel
theorem d_R_weeksOf_75 : decode I_R_weeksOf.2.1 75 = .ok (.invokevirtual 216, 3) := by decide +kernel
theorem d_R_weeksOf_78 : decode I_R_weeksOf.2.1 78 = .ok (.iinc 5 1, 3) := by decide +kernel
theorem d_R_weeksOf_81 : decode I_R_weeksOf.2.1 81 = .ok (.goto (-67), 3) := by decide +kernel
theorem d_R_weeksOf_84 : decode I_R_weeksOf.2.1 84 = .ok (.aload_n 0, 1) := by decide +kernel
theorem d_R_weeksOf_85 : decode I_R_weeksOf.2.1 85 = .ok (.iconst 0, 1) := by decide +kernel
theorem d_R_weeksOf_86 : decode I_R_weeksOf.2.1 86 = .ok (.iload_n 2, 1) := by decide +kernel
theorem d_R_weeksOf_87 : decode I_R_weeksOf.2.1 87 = .ok (.iconst 1, 1) := by decide +kernel
theorem d_R_weeksOf_88 : decode I_R_weeksOf.2.1 88 = .ok (.isub, 1) := by decide +kernel
theorem d_R_weeksOf_89 : decode I_R_weeksOf.2.1 89 = .ok (.invokevirtual 175, 3) := by decide +kernel
theorem d_R_weeksOf_92 : decode I_R_weeksOf.2.1 92 = .ok (.iconst 0, 1) := by decide +kernel
theorem d_R_weeksOf_93 : decode I_R_weeksOf.2.1 93 = .ok (.istore 5, 2) := by decide +kernel
theorem d_R_weeksOf_95 : decode I_R_weeksOf.2.1 95 = .ok (.iconst 0, 1) := by decide +kernel
theorem d_R_weeksOf_96 : decode I_R_weeksOf.2.1 96 = .ok (.istore 6, 2) := by decide +kernel
theorem d_R_weeksOf_98 : decode I_R_weeksOf.2.1 98 = .ok (.iload 6, 2) := by decide +kernel
theorem d_R_weeksOf_100 : decode I_R_weeksOf.2.1 100 = .ok (.iload_n 2, 1) := by decide +kernel
theorem d_R_weeksOf_101 : decode I_R_weeksOf.2.1 101 = .ok (.if_icmp .ge 30, 3) := by decide +kernel
theorem d_R_weeksOf_104 : decode I_R_weeksOf.2.1 104 = .ok (.iload 5, 2) := by decide +kernel
theorem d_R_weeksOf_106 : decode I_R_weeksOf.2.1 106 = .ok (.aload_n 0, 1) := by decide +kernel
theorem d_R_weeksOf_107 : decode I_R_weeksOf.2.1 107 = .ok (.getfield 43, 3) := by decide +kernel
theorem d_R_weeksOf_110 : decode I_R_weeksOf.2.1 110 = .ok (.iload 6, 2) := by decide +kernel
theorem d_R_weeksOf_112 : decode I_R_weeksOf.2.1 112 = .ok (.iaload, 1) := by decide +kernel
theorem d_R_weeksOf_113 : decode I_R_weeksOf.2.1 113 = .ok (.iload_n 3, 1) := by decide +kernel
theorem d_R_weeksOf_114 : decode I_R_weeksOf.2.1 114 = .ok (.if_icmp .ne 7, 3) := by decide +kernel
theorem d_R_weeksOf_117 : decode I_R_weeksOf.2.1 117 = .ok (.iconst 1, 1) := by decide +kernel
theorem d_R_weeksOf_118 : decode I_R_weeksOf.2.1 118 = .ok (.goto 4, 3) := by decide +kernel
theorem d_R_weeksOf_121 : decode I_R_weeksOf.2.1 121 = .ok (.iconst 0, 1) := by decide +kernel
theorem d_R_weeksOf_122 : decode I_R_weeksOf.2.1 122 = .ok (.iadd, 1) := by decide +kernel
theorem d_R_weeksOf_123 : decode I_R_weeksOf.2.1 123 = .ok (.istore 5, 2) := by decide +kernel
theorem d_R_weeksOf_125 : decode I_R_weeksOf.2.1 125 = .ok (.iinc 6 1, 3) := by decide +kernel
theorem d_R_weeksOf_128 : decode I_R_weeksOf.2.1 128 = .ok (.goto (-30), 3) := by decide +kernel
theorem d_R_weeksOf_131 : decode I_R_weeksOf.2.1 131 = .ok (.iload_n 3, 1) := by decide +kernel
theorem d_R_weeksOf_132 : decode I_R_weeksOf.2.1 132 = .ok (.iconst (-1), 1) := by decide +kernel
theorem d_R_weeksOf_133 : decode I_R_weeksOf.2.1 133 = .ok (.if_icmp .ne 14, 3) := by decide +kernel
theorem d_R_weeksOf_136 : decode I_R_weeksOf.2.1 136 = .ok (.aload_n 0, 1) := by decide +kernel
theorem d_R_weeksOf_137 : decode I_R_weeksOf.2.1 137 = .ok (.getfield 43, 3) := by decide +kernel
theorem d_R_weeksOf_140 : decode I_R_weeksOf.2.1 140 = .ok (.iload_n 2, 1) := by decide +kernel
theorem d_R_weeksOf_141 : decode I_R_weeksOf.2.1 141 = .ok (.iconst 1, 1) := by decide +kernel
theorem d_R_weeksOf_142 : decode I_R_weeksOf.2.1 142 = .ok (.isub, 1) := by decide +kernel
theorem d_R_weeksOf_143 : decode I_R_weeksOf.2.1 143 = .ok (.iaload, 1) := by decide +kernel
theorem d_R_weeksOf_144 : decode I_R_weeksOf.2.1 144 = .ok (.goto 5, 3) := by decide +kernel
theorem d_R_weeksOf_147 : decode I_R_weeksOf.2.1 147 = .ok (.iload 5, 2) := by decide +kernel
theorem d_R_weeksOf_149 : decode I_R_weeksOf.2.1 149 = .ok (.ireturn, 1) := by decide +kernel
theorem d_R_weeks_0 : decode I_R_weeks.2.1 0 = .ok (.iload_n 2, 1) := by decide +kernel
theorem d_R_weeks_1 : decode I_R_weeks.2.1 1 = .ok (.iconst 1, 1) := by decide +kernel
theorem d_R_weeks_2 : decode I_R_weeks.2.1 2 = .ok (.bipush 30, 2) := by decide +kernel
theorem d_R_weeks_4 : decode I_R_weeks.2.1 4 = .ok (.invokestatic 95, 3) := by decide +kernel
theorem d_R_weeks_7 : decode I_R_weeks.2.1 7 = .ok (.ifCond .eq 26, 3) := by decide +kernel
theorem d_R_weeks_10 : decode I_R_weeks.2.1 10 = .ok (.iload_n 3, 1) := by decide +kernel
theorem d_R_weeks_11 : decode I_R_weeks.2.1 11 = .ok (.iconst (-1), 1) := by decide +kernel
theorem d_R_weeks_12 : decode I_R_weeks.2.1 12 = .ok (.if_icmp .eq 11, 3) := by decide +kernel
theorem d_R_weeks_15 : decode I_R_weeks.2.1 15 = .ok (.aload_n 0, 1) := by decide +kernel
theorem d_R_weeks_16 : decode I_R_weeks.2.1 16 = .ok (.iload_n 3, 1) := by decide +kernel
theorem d_R_weeks_17 : decode I_R_weeks.2.1 17 = .ok (.invokevirtual 112, 3) := by decide +kernel
theorem d_R_weeks_20 : decode I_R_weeks.2.1 20 = .ok (.ifCond .eq 13, 3) := by decide +kernel
theorem d_R_weeks_23 : decode I_R_weeks.2.1 23 = .ok (.aload_n 0, 1) := by decide +kernel
theorem d_R_weeks_24 : decode I_R_weeks.2.1 24 = .ok (.iload_n 1, 1) := by decide +kernel
theorem d_R_weeks_25 : decode I_R_weeks.2.1 25 = .ok (.iload_n 2, 1) := by decide +kernel
theorem d_R_weeks_26 : decode I_R_weeks.2.1 26 = .ok (.iload_n 3, 1) := by decide +kernel
theorem d_R_weeks_27 : decode I_R_weeks.2.1 27 = .ok (.invokevirtual 286, 3) := by decide +kernel
theorem d_R_weeks_30 : decode I_R_weeks.2.1 30 = .ok (.goto 5, 3) := by decide +kernel
theorem d_R_weeks_33 : decode I_R_weeks.2.1 33 = .ok (.bipush (-2), 2) := by decide +kernel
theorem d_R_weeks_35 : decode I_R_weeks.2.1 35 = .ok (.ireturn, 1) := by decide +kernel
theorem d_R_meets_0 : decode I_R_meets.2.1 0 = .ok (.aload_n 0, 1) := by decide +kernel
theorem d_R_meets_1 : decode I_R_meets.2.1 1 = .ok (.iload_n 1, 1) := by decide +kernel
theorem d_R_meets_2 : decode I_R_meets.2.1 2 = .ok (.putfield 289, 3) := by decide +kernel
theorem d_R_meets_5 : decode I_R_meets.2.1 5 = .ok (.bipush (-10), 2) := by decide +kernel
theorem d_R_meets_7 : decode I_R_meets.2.1 7 = .ok (.iload_n 1, 1) := by decide +kernel
theorem d_R_meets_8 : decode I_R_meets.2.1 8 = .ok (.isub, 1) := by decide +kernel
theorem d_R_meets_9 : decode I_R_meets.2.1 9 = .ok (.ireturn, 1) := by decide +kernel
theorem d_R_isSheet_0 : decode I_R_isSheet.2.1 0 = .ok (.iload_n 0, 1) := by decide +kernel
theorem d_R_isSheet_1 : decode I_R_isSheet.2.1 1 = .ok (.iconst 0, 1) := by decide +kernel
theorem d_R_isSheet_2 : decode I_R_isSheet.2.1 2 = .ok (.iconst 3, 1) := by decide +kernel
theorem d_R_isSheet_3 : decode I_R_isSheet.2.1 3 = .ok (.invokestatic 95, 3) := by decide +kernel
theorem d_R_isSheet_6 : decode I_R_isSheet.2.1 6 = .ok (.ireturn, 1) := by decide +kernel
theorem d_R_sheet_0 : decode I_R_sheet.2.1 0 = .ok (.iload_n 1, 1) := by decide +kernel
theorem d_R_sheet_1 : decode I_R_sheet.2.1 1 = .ok (.invokestatic 135, 3) := by decide +kernel
theorem d_R_sheet_4 : decode I_R_sheet.2.1 4 = .ok (.ifCond .eq 18, 3) := by decide +kernel
theorem d_R_sheet_7 : decode I_R_sheet.2.1 7 = .ok (.iload_n 2, 1) := by decide +kernel
theorem d_R_sheet_8 : decode I_R_sheet.2.1 8 = .ok (.iconst 0, 1) := by decide +kernel
theorem d_R_sheet_9 : decode I_R_sheet.2.1 9 = .ok (.iconst 2, 1) := by decide +kernel
theorem d_R_sheet_10 : decode I_R_sheet.2.1 10 = .ok (.invokestatic 95, 3) := by decide +kernel
theorem d_R_sheet_13 : decode I_R_sheet.2.1 13 = .ok (.ifCond .eq 9, 3) := by decide +kernel
theorem d_R_sheet_16 : decode I_R_sheet.2.1 16 = .ok (.iload_n 3, 1) := by decide +kernel
theorem d_R_sheet_17 : decode I_R_sheet.2.1 17 = .ok (.bipush 48, 2) := by decide +kernel
theorem d_R_sheet_19 : decode I_R_sheet.2.1 19 = .ok (.if_icmp .le 6, 3) := by decide +kernel
theorem d_R_sheet_22 : decode I_R_sheet.2.1 22 = .ok (.bipush (-2), 2) := by decide +kernel
theorem d_R_sheet_24 : decode I_R_sheet.2.1 24 = .ok (.ireturn, 1) := by decide +kernel
theorem d_R_sheet_25 : decode I_R_sheet.2.1 25 = .ok (.iload_n 3, 1) := by decide +kernel
theorem d_R_sheet_26 : decode I_R_sheet.2.1 26 = .ok (.ifCond .ge 9, 3) := by decide +kernel
theorem d_R_sheet_29 : decode I_R_sheet.2.1 29 = .ok (.aload_n 0, 1) := by decide +kernel
theorem d_R_sheet_30 : decode I_R_sheet.2.1 30 = .ok (.iconst 5, 1) := by decide +kernel
theorem d_R_sheet_31 : decode I_R_sheet.2.1 31 = .ok (.invokevirtual 138, 3) := by decide +kernel
theorem d_R_sheet_34 : decode I_R_sheet.2.1 34 = .ok (.ireturn, 1) := by decide +kernel
theorem d_R_sheet_35 : decode I_R_sheet.2.1 35 = .ok (.aload_n 0, 1) := by decide +kernel
theorem d_R_sheet_36 : decode I_R_sheet.2.1 36 = .ok (.getfield 68, 3) := by decide +kernel
theorem d_R_sheet_39 : decode I_R_sheet.2.1 39 = .ok (.iload_n 1, 1) := by decide +kernel
theorem d_R_sheet_40 : decode I_R_sheet.2.1 40 = .ok (.iconst 1, 1) := by decide +kernel
theorem d_R_sheet_41 : decode I_R_sheet.2.1 41 = .ok (.bastore, 1) := by decide +kernel
theorem d_R_sheet_42 : decode I_R_sheet.2.1 42 = .ok (.aload_n 0, 1) := by decide +kernel
theorem d_R_sheet_43 : decode I_R_sheet.2.1 43 = .ok (.getfield 71, 3) := by decide +kernel
theorem d_R_sheet_46 : decode I_R_sheet.2.1 46 = .ok (.iload_n 1, 1) := by decide +kernel
theorem d_R_sheet_47 : decode I_R_sheet.2.1 47 = .ok (.iload_n 2, 1) := by decide +kernel
theorem d_R_sheet_48 : decode I_R_sheet.2.1 48 = .ok (.iastore, 1) := by decide +kernel
theorem d_R_sheet_49 : decode I_R_sheet.2.1 49 = .ok (.aload_n 0, 1) := by decide +kernel
theorem d_R_sheet_50 : decode I_R_sheet.2.1 50 = .ok (.getfield 74, 3) := by decide +kernel
theorem d_R_sheet_53 : decode I_R_sheet.2.1 53 = .ok (.iload_n 1, 1) := by decide +kernel
theorem d_R_sheet_54 : decode I_R_sheet.2.1 54 = .ok (.iload_n 3, 1) := by decide +kernel
theorem d_R_sheet_55 : decode I_R_sheet.2.1 55 = .ok (.iastore, 1) := by decide +kernel
theorem d_R_sheet_56 : decode I_R_sheet.2.1 56 = .ok (.iconst 0, 1) := by decide +kernel
theorem d_R_sheet_57 : decode I_R_sheet.2.1 57 = .ok (.istore 4, 2) := by decide +kernel
theorem d_R_sheet_59 : decode I_R_sheet.2.1 59 = .ok (.iload 4, 2) := by decide +kernel
theorem d_R_sheet_61 : decode I_R_sheet.2.1 61 = .ok (.bipush 48, 2) := by decide +kernel
theorem d_R_sheet_63 : decode I_R_sheet.2.1 63 = .ok (.if_icmp .ge 22, 3) := by decide +kernel
theorem d_R_sheet_66 : decode I_R_sheet.2.1 66 = .ok (.aload_n 0, 1) := by decide +kernel
theorem d_R_sheet_67 : decode I_R_sheet.2.1 67 = .ok (.getfield 77, 3) := by decide +kernel
theorem d_R_sheet_70 : decode I_R_sheet.2.1 70 = .ok (.bipush 48, 2) := by decide +kernel
theorem d_R_sheet_72 : decode I_R_sheet.2.1 72 = .ok (.iload_n 1, 1) := by decide +kernel
theorem d_R_sheet_73 : decode I_R_sheet.2.1 73 = .ok (.imul, 1) := by decide +kernel
theorem d_R_sheet_74 : decode I_R_sheet.2.1 74 = .ok (.iload 4, 2) := by decide +kernel
theorem d_R_sheet_76 : decode I_R_sheet.2.1 76 = .ok (.iadd, 1) := by decide +kernel
theorem d_R_sheet_77 : decode I_R_sheet.2.1 77 = .ok (.iconst 0, 1) := by decide +kernel
theorem d_R_sheet_78 : decode I_R_sheet.2.1 78 = .ok (.iastore, 1) := by decide +kernel
theorem d_R_sheet_79 : decode I_R_sheet.2.1 79 = .ok (.iinc 4 1, 3) := by decide +kernel
theorem d_R_sheet_82 : decode I_R_sheet.2.1 82 = .ok (.goto (-23), 3) := by decide +kernel
theorem d_R_sheet_85 : decode I_R_sheet.2.1 85 = .ok (.iload_n 3, 1) := by decide +kernel
theorem d_R_sheet_86 : decode I_R_sheet.2.1 86 = .ok (.ireturn, 1) := by decide +kernel
theorem d_R_lose_0 : decode I_R_lose.2.1 0 = .ok (.iload_n 1, 1) := by decide +kernel
theorem d_R_lose_1 : decode I_R_lose.2.1 1 = .ok (.invokestatic 135, 3) := by decide +kernel
theorem d_R_lose_4 : decode I_R_lose.2.1 4 = .ok (.ifCond .ne 6, 3) := by decide +kernel
theorem d_R_lose_7 : decode I_R_lose.2.1 7 = .ok (.bipush (-2), 2) := by decide +kernel
theorem d_R_lose_9 : decode I_R_lose.2.1 9 = .ok (.ireturn, 1) := by decide +kernel
theorem d_R_lose_10 : decode I_R_lose.2.1 10 = .ok (.aload_n 0, 1) := by decide +kernel
theorem d_R_lose_11 : decode I_R_lose.2.1 11 = .ok (.getfield 68, 3) := by decide +kernel
theorem d_R_lose_14 : decode I_R_lose.2.1 14 = .ok (.iload_n 1, 1) := by decide +kernel
theorem d_R_lose_15 : decode I_R_lose.2.1 15 = .ok (.baload, 1) := by decide +kernel
theorem d_R_lose_16 : decode I_R_lose.2.1 16 = .ok (.ifCond .ne 9, 3) := by decide +kernel
theorem d_R_lose_19 : decode I_R_lose.2.1 19 = .ok (.aload_n 0, 1) := by decide +kernel
theorem d_R_lose_20 : decode I_R_lose.2.1 20 = .ok (.iconst 1, 1) := by decide +kernel
theorem d_R_lose_21 : decode I_R_lose.2.1 21 = .ok (.invokevirtual 138, 3) := by decide +kernel
theorem d_R_lose_24 : decode I_R_lose.2.1 24 = .ok (.ireturn, 1) := by decide +kernel
theorem d_R_lose_25 : decode I_R_lose.2.1 25 = .ok (.aload_n 0, 1) := by decide +kernel
theorem d_R_lose_26 : decode I_R_lose.2.1 26 = .ok (.getfield 68, 3) := by decide +kernel
theorem d_R_lose_29 : decode I_R_lose.2.1 29 = .ok (.iload_n 1, 1) := by decide +kernel
theorem d_R_lose_30 : decode I_R_lose.2.1 30 = .ok (.iconst 0, 1) := by decide +kernel
theorem d_R_lose_31 : decode I_R_lose.2.1 31 = .ok (.bastore, 1) := by decide +kernel
theorem d_R_lose_32 : decode I_R_lose.2.1 32 = .ok (.aload_n 0, 1) := by decide +kernel
theorem d_R_lose_33 : decode I_R_lose.2.1 33 = .ok (.getfield 74, 3) := by decide +kernel
theorem d_R_lose_36 : decode I_R_lose.2.1 36 = .ok (.iload_n 1, 1) := by decide +kernel
theorem d_R_lose_37 : decode I_R_lose.2.1 37 = .ok (.iaload, 1) := by decide +kernel
theorem d_R_lose_38 : decode I_R_lose.2.1 38 = .ok (.ireturn, 1) := by decide +kernel
theorem d_R_lacks_0 : decode I_R_lacks.2.1 0 = .ok (.aload_n 0, 1) := by decide +kernel
theorem d_R_lacks_1 : decode I_R_lacks.2.1 1 = .ok (.getfield 68, 3) := by decide +kernel
theorem d_R_lacks_4 : decode I_R_lacks.2.1 4 = .ok (.iload_n 1, 1) := by decide +kernel
theorem d_R_lacks_5 : decode I_R_lacks.2.1 5 = .ok (.baload, 1) := by decide +kernel
theorem d_R_lacks_6 : decode I_R_lacks.2.1 6 = .ok (.ifCond .ne 7, 3) := by decide +kernel
theorem d_R_lacks_9 : decode I_R_lacks.2.1 9 = .ok (.iconst 1, 1) := by decide +kernel
theorem d_R_lacks_10 : decode I_R_lacks.2.1 10 = .ok (.goto 38, 3) := by decide +kernel
theorem d_R_lacks_13 : decode I_R_lacks.2.1 13 = .ok (.aload_n 0, 1) := by decide +kernel
theorem d_R_lacks_14 : decode I_R_lacks.2.1 14 = .ok (.getfield 71, 3) := by decide +kernel
theorem d_R_lacks_17 : decode I_R_lacks.2.1 17 = .ok (.iload_n 1, 1) := by decide +kernel
theorem d_R_lacks_18 : decode I_R_lacks.2.1 18 = .ok (.iaload, 1) := by decide +kernel
theorem d_R_lacks_19 : decode I_R_lacks.2.1 19 = .ok (.iload_n 2, 1) := by decide +kernel
theorem d_R_lacks_20 : decode I_R_lacks.2.1 20 = .ok (.if_icmp .eq 7, 3) := by decide +kernel
theorem d_R_lacks_23 : decode I_R_lacks.2.1 23 = .ok (.iconst 3, 1) := by decide +kernel
theorem d_R_lacks_24 : decode I_R_lacks.2.1 24 = .ok (.goto 24, 3) := by decide +kernel
theorem d_R_lacks_27 : decode I_R_lacks.2.1 27 = .ok (.iload_n 3, 1) := by decide +kernel
theorem d_R_lacks_28 : decode I_R_lacks.2.1 28 = .ok (.iconst 0, 1) := by decide +kernel
theorem d_R_lacks_29 : decode I_R_lacks.2.1 29 = .ok (.aload_n 0, 1) := by decide +kernel
theorem d_R_lacks_30 : decode I_R_lacks.2.1 30 = .ok (.getfield 74, 3) := by decide +kernel
theorem d_R_lacks_33 : decode I_R_lacks.2.1 33 = .ok (.iload_n 1, 1) := by decide +kernel
theorem d_R_lacks_34 : decode I_R_lacks.2.1 34 = .ok (.iaload, 1) := by decide +kernel
theorem d_R_lacks_35 : decode I_R_lacks.2.1 35 = .ok (.iconst 1, 1) := by decide +kernel
theorem d_R_lacks_36 : decode I_R_lacks.2.1 36 = .ok (.isub, 1) := by decide +kernel
theorem d_R_lacks_37 : decode I_R_lacks.2.1 37 = .ok (.invokestatic 95, 3) := by decide +kernel
theorem d_R_lacks_40 : decode I_R_lacks.2.1 40 = .ok (.ifCond .eq 7, 3) := by decide +kernel
theorem d_R_lacks_43 : decode I_R_lacks.2.1 43 = .ok (.iconst 0, 1) := by decide +kernel
theorem d_R_lacks_44 : decode I_R_lacks.2.1 44 = .ok (.goto 4, 3) := by decide +kernel
theorem d_R_lacks_47 : decode I_R_lacks.2.1 47 = .ok (.iconst 2, 1) := by decide +kernel
theorem d_R_lacks_48 : decode I_R_lacks.2.1 48 = .ok (.ireturn, 1) := by decide +kernel
theorem d_R_keep_0 : decode I_R_keep.2.1 0 = .ok (.aload_n 0, 1) := by decide +kernel
theorem d_R_keep_1 : decode I_R_keep.2.1 1 = .ok (.getfield 77, 3) := by decide +kernel
theorem d_R_keep_4 : decode I_R_keep.2.1 4 = .ok (.bipush 48, 2) := by decide +kernel
theorem d_R_keep_6 : decode I_R_keep.2.1 6 = .ok (.iload_n 1, 1) := by decide +kernel
theorem d_R_keep_7 : decode I_R_keep.2.1 7 = .ok (.imul, 1) := by decide +kernel
theorem d_R_keep_8 : decode I_R_keep.2.1 8 = .ok (.iload_n 2, 1) := by decide +kernel
theorem d_R_keep_9 : decode I_R_keep.2.1 9 = .ok (.iadd, 1) := by decide +kernel
theorem d_R_keep_10 : decode I_R_keep.2.1 10 = .ok (.aload_n 0, 1) := by decide +kernel
theorem d_R_keep_11 : decode I_R_keep.2.1 11 = .ok (.getfield 71, 3) := by decide +kernel
theorem d_R_keep_14 : decode I_R_keep.2.1 14 = .ok (.iload_n 1, 1) := by decide +kernel
theorem d_R_keep_15 : decode I_R_keep.2.1 15 = .ok (.iaload, 1) := by decide +kernel
theorem d_R_keep_16 : decode I_R_keep.2.1 16 = .ok (.ifCond .ne 8, 3) := by decide +kernel
theorem d_R_keep_19 : decode I_R_keep.2.1 19 = .ok (.iload_n 3, 1) := by decide +kernel
theorem d_R_keep_20 : decode I_R_keep.2.1 20 = .ok (.i2b, 1) := by decide +kernel
theorem d_R_keep_21 : decode I_R_keep.2.1 21 = .ok (.goto 19, 3) := by decide +kernel
theorem d_R_keep_24 : decode I_R_keep.2.1 24 = .ok (.aload_n 0, 1) := by decide +kernel
theorem d_R_keep_25 : decode I_R_keep.2.1 25 = .ok (.getfield 71, 3) := by decide +kernel
theorem d_R_keep_28 : decode I_R_keep.2.1 28 = .ok (.iload_n 1, 1) := by decide +kernel
theorem d_R_keep_29 : decode I_R_keep.2.1 29 = .ok (.iaload, 1) := by decide +kernel
theorem d_R_keep_30 : decode I_R_keep.2.1 30 = .ok (.iconst 1, 1) := by decide +kernel
theorem d_R_keep_31 : decode I_R_keep.2.1 31 = .ok (.if_icmp .ne 8, 3) := by decide +kernel
theorem d_R_keep_34 : decode I_R_keep.2.1 34 = .ok (.iload_n 3, 1) := by decide +kernel
theorem d_R_keep_35 : decode I_R_keep.2.1 35 = .ok (.i2s, 1) := by decide +kernel
theorem d_R_keep_36 : decode I_R_keep.2.1 36 = .ok (.goto 4, 3) := by decide +kernel
theorem d_R_keep_39 : decode I_R_keep.2.1 39 = .ok (.iload_n 3, 1) := by decide +kernel
theorem d_R_keep_40 : decode I_R_keep.2.1 40 = .ok (.iastore, 1) := by decide +kernel
theorem d_R_keep_41 : decode I_R_keep.2.1 41 = .ok (.return_, 1) := by decide +kernel
theorem d_R_put_0 : decode I_R_put.2.1 0 = .ok (.iload_n 1, 1) := by decide +kernel
theorem d_R_put_1 : decode I_R_put.2.1 1 = .ok (.invokestatic 135, 3) := by decide +kernel
theorem d_R_put_4 : decode I_R_put.2.1 4 = .ok (.ifCond .eq 12, 3) := by decide +kernel
theorem d_R_put_7 : decode I_R_put.2.1 7 = .ok (.iload_n 2, 1) := by decide +kernel
theorem d_R_put_8 : decode I_R_put.2.1 8 = .ok (.iconst 0, 1) := by decide +kernel
theorem d_R_put_9 : decode I_R_put.2.1 9 = .ok (.iconst 2, 1) := by decide +kernel
theorem d_R_put_10 : decode I_R_put.2.1 10 = .ok (.invokestatic 95, 3) := by decide +kernel
theorem d_R_put_13 : decode I_R_put.2.1 13 = .ok (.ifCond .ne 6, 3) := by decide +kernel
theorem d_R_put_16 : decode I_R_put.2.1 16 = .ok (.bipush (-2), 2) := by decide +kernel
theorem d_R_put_18 : decode I_R_put.2.1 18 = .ok (.ireturn, 1) := by decide +kernel
theorem d_R_put_19 : decode I_R_put.2.1 19 = .ok (.aload_n 0, 1) := by decide +kernel
theorem d_R_put_20 : decode I_R_put.2.1 20 = .ok (.iload_n 1, 1) := by decide +kernel
theorem d_R_put_21 : decode I_R_put.2.1 21 = .ok (.iload_n 2, 1) := by decide +kernel
theorem d_R_put_22 : decode I_R_put.2.1 22 = .ok (.iload_n 3, 1) := by decide +kernel
theorem d_R_put_23 : decode I_R_put.2.1 23 = .ok (.invokevirtual 292, 3) := by decide +kernel
theorem d_R_put_26 : decode I_R_put.2.1 26 = .ok (.istore 5, 2) := by decide +kernel
theorem d_R_put_28 : decode I_R_put.2.1 28 = .ok (.iload 5, 2) := by decide +kernel
theorem d_R_put_30 : decode I_R_put.2.1 30 = .ok (.ifCond .le 10, 3) := by decide +kernel
theorem d_R_put_33 : decode I_R_put.2.1 33 = .ok (.aload_n 0, 1) := by decide +kernel
theorem d_R_put_34 : decode I_R_put.2.1 34 = .ok (.iload 5, 2) := by decide +kernel
theorem d_R_put_36 : decode I_R_put.2.1 36 = .ok (.invokevirtual 138, 3) := by decide +kernel
theorem d_R_put_39 : decode I_R_put.2.1 39 = .ok (.ireturn, 1) := by decide +kernel
theorem d_R_put_40 : decode I_R_put.2.1 40 = .ok (.aload_n 0, 1) := by decide +kernel
theorem d_R_put_41 : decode I_R_put.2.1 41 = .ok (.iload_n 1, 1) := by decide +kernel
theorem d_R_put_42 : decode I_R_put.2.1 42 = .ok (.iload_n 3, 1) := by decide +kernel
theorem d_R_put_43 : decode I_R_put.2.1 43 = .ok (.iload 4, 2) := by decide +kernel
theorem d_R_put_45 : decode I_R_put.2.1 45 = .ok (.invokevirtual 295, 3) := by decide +kernel
theorem d_R_put_48 : decode I_R_put.2.1 48 = .ok (.iconst 1, 1) := by decide +kernel
theorem d_R_put_49 : decode I_R_put.2.1 49 = .ok (.ireturn, 1) := by decide +kernel
theorem d_R_get_0 : decode I_R_get.2.1 0 = .ok (.iload_n 1, 1) := by decide +kernel
theorem d_R_get_1 : decode I_R_get.2.1 1 = .ok (.invokestatic 135, 3) := by decide +kernel
theorem d_R_get_4 : decode I_R_get.2.1 4 = .ok (.ifCond .eq 12, 3) := by decide +kernel
theorem d_R_get_7 : decode I_R_get.2.1 7 = .ok (.iload_n 2, 1) := by decide +kernel
theorem d_R_get_8 : decode I_R_get.2.1 8 = .ok (.iconst 0, 1) := by decide +kernel
theorem d_R_get_9 : decode I_R_get.2.1 9 = .ok (.iconst 2, 1) := by decide +kernel
theorem d_R_get_10 : decode I_R_get.2.1 10 = .ok (.invokestatic 95, 3) := by decide +kernel
theorem d_R_get_13 : decode I_R_get.2.1 13 = .ok (.ifCond .ne 7, 3) := by decide +kernel
theorem d_R_get_16 : decode I_R_get.2.1 16 = .ok (.ldc_w 298, 3) := by decide +kernel
theorem d_R_get_19 : decode I_R_get.2.1 19 = .ok (.ireturn, 1) := by decide +kernel
theorem d_R_get_20 : decode I_R_get.2.1 20 = .ok (.aload_n 0, 1) := by decide +kernel
theorem d_R_get_21 : decode I_R_get.2.1 21 = .ok (.iload_n 1, 1) := by decide +kernel
theorem d_R_get_22 : decode I_R_get.2.1 22 = .ok (.iload_n 2, 1) := by decide +kernel
theorem d_R_get_23 : decode I_R_get.2.1 23 = .ok (.iload_n 3, 1) := by decide +kernel
theorem d_R_get_24 : decode I_R_get.2.1 24 = .ok (.invokevirtual 292, 3) := by decide +kernel
theorem d_R_get_27 : decode I_R_get.2.1 27 = .ok (.istore 4, 2) := by decide +kernel
theorem d_R_get_29 : decode I_R_get.2.1 29 = .ok (.iload 4, 2) := by decide +kernel
theorem d_R_get_31 : decode I_R_get.2.1 31 = .ok (.ifCond .le 13, 3) := by decide +kernel
theorem d_R_get_34 : decode I_R_get.2.1 34 = .ok (.aload_n 0, 1) := by decide +kernel
theorem d_R_get_35 : decode I_R_get.2.1 35 = .ok (.iload 4, 2) := by decide +kernel
theorem d_R_get_37 : decode I_R_get.2.1 37 = .ok (.putfield 289, 3) := by decide +kernel
theorem d_R_get_40 : decode I_R_get.2.1 40 = .ok (.ldc_w 298, 3) := by decide +kernel
theorem d_R_get_43 : decode I_R_get.2.1 43 = .ok (.ireturn, 1) := by decide +kernel
theorem d_R_get_44 : decode I_R_get.2.1 44 = .ok (.aload_n 0, 1) := by decide +kernel
theorem d_R_get_45 : decode I_R_get.2.1 45 = .ok (.getfield 77, 3) := by decide +kernel
theorem d_R_get_48 : decode I_R_get.2.1 48 = .ok (.bipush 48, 2) := by decide +kernel
theorem d_R_get_50 : decode I_R_get.2.1 50 = .ok (.iload_n 1, 1) := by decide +kernel
theorem d_R_get_51 : decode I_R_get.2.1 51 = .ok (.imul, 1) := by decide +kernel
theorem d_R_get_52 : decode I_R_get.2.1 52 = .ok (.iload_n 3, 1) := by decide +kernel
theorem d_R_get_53 : decode I_R_get.2.1 53 = .ok (.iadd, 1) := by decide +kernel
theorem d_R_get_54 : decode I_R_get.2.1 54 = .ok (.iaload, 1) := by decide +kernel
theorem d_R_get_55 : decode I_R_get.2.1 55 = .ok (.ireturn, 1) := by decide +kernel
theorem d_R_copy_0 : decode I_R_copy.2.1 0 = .ok (.iload_n 1, 1) := by decide +kernel
theorem d_R_copy_1 : decode I_R_copy.2.1 1 = .ok (.invokestatic 135, 3) := by decide +kernel
theorem d_R_copy_4 : decode I_R_copy.2.1 4 = .ok (.ifCond .eq 10, 3) := by decide +kernel
theorem d_R_copy_7 : decode I_R_copy.2.1 7 = .ok (.iload_n 3, 1) := by decide +kernel
theorem d_R_copy_8 : decode I_R_copy.2.1 8 = .ok (.invokestatic 135, 3) := by decide +kernel
theorem d_R_copy_11 : decode I_R_copy.2.1 11 = .ok (.ifCond .ne 6, 3) := by decide +kernel
theorem d_R_copy_14 : decode I_R_copy.2.1 14 = .ok (.bipush (-2), 2) := by decide +kernel
theorem d_R_copy_16 : decode I_R_copy.2.1 16 = .ok (.ireturn, 1) := by decide +kernel
theorem d_R_copy_17 : decode I_R_copy.2.1 17 = .ok (.aload_n 0, 1) := by decide +kernel
theorem d_R_copy_18 : decode I_R_copy.2.1 18 = .ok (.getfield 68, 3) := by decide +kernel
theorem d_R_copy_21 : decode I_R_copy.2.1 21 = .ok (.iload_n 1, 1) := by decide +kernel
theorem d_R_copy_22 : decode I_R_copy.2.1 22 = .ok (.baload, 1) := by decide +kernel
theorem d_R_copy_23 : decode I_R_copy.2.1 23 = .ok (.ifCond .eq 12, 3) := by decide +kernel
theorem d_R_copy_26 : decode I_R_copy.2.1 26 = .ok (.aload_n 0, 1) := by decide +kernel
theorem d_R_copy_27 : decode I_R_copy.2.1 27 = .ok (.getfield 68, 3) := by decide +kernel
theorem d_R_copy_30 : decode I_R_copy.2.1 30 = .ok (.iload_n 3, 1) := by decide +kernel
theorem d_R_copy_31 : decode I_R_copy.2.1 31 = .ok (.baload, 1) := by decide +kernel
theorem d_R_copy_32 : decode I_R_copy.2.1 32 = .ok (.ifCond .ne 9, 3) := by decide +kernel
theorem d_R_copy_35 : decode I_R_copy.2.1 35 = .ok (.aload_n 0, 1) := by decide +kernel
theorem d_R_copy_36 : decode I_R_copy.2.1 36 = .ok (.iconst 1, 1) := by decide +kernel
theorem d_R_copy_37 : decode I_R_copy.2.1 37 = .ok (.invokevirtual 138, 3) := by decide +kernel
theorem d_R_copy_40 : decode I_R_copy.2.1 40 = .ok (.ireturn, 1) := by decide +kernel
theorem d_R_copy_41 : decode I_R_copy.2.1 41 = .ok (.aload_n 0, 1) := by decide +kernel
theorem d_R_copy_42 : decode I_R_copy.2.1 42 = .ok (.getfield 71, 3) := by decide +kernel
theorem d_R_copy_45 : decode I_R_copy.2.1 45 = .ok (.iload_n 1, 1) := by decide +kernel
theorem d_R_copy_46 : decode I_R_copy.2.1 46 = .ok (.iaload, 1) := by decide +kernel
theorem d_R_copy_47 : decode I_R_copy.2.1 47 = .ok (.aload_n 0, 1) := by decide +kernel
theorem d_R_copy_48 : decode I_R_copy.2.1 48 = .ok (.getfield 71, 3) := by decide +kernel
theorem d_R_copy_51 : decode I_R_copy.2.1 51 = .ok (.iload_n 3, 1) := by decide +kernel
theorem d_R_copy_52 : decode I_R_copy.2.1 52 = .ok (.iaload, 1) := by decide +kernel
theorem d_R_copy_53 : decode I_R_copy.2.1 53 = .ok (.if_icmp .eq 9, 3) := by decide +kernel
theorem d_R_copy_56 : decode I_R_copy.2.1 56 = .ok (.aload_n 0, 1) := by decide +kernel
theorem d_R_copy_57 : decode I_R_copy.2.1 57 = .ok (.iconst 4, 1) := by decide +kernel
theorem d_R_copy_58 : decode I_R_copy.2.1 58 = .ok (.invokevirtual 138, 3) := by decide +kernel
theorem d_R_copy_61 : decode I_R_copy.2.1 61 = .ok (.ireturn, 1) := by decide +kernel
theorem d_R_copy_62 : decode I_R_copy.2.1 62 = .ok (.iload_n 2, 1) := by decide +kernel
theorem d_R_copy_63 : decode I_R_copy.2.1 63 = .ok (.ifCond .lt 48, 3) := by decide +kernel
theorem d_R_copy_66 : decode I_R_copy.2.1 66 = .ok (.iload 4, 2) := by decide +kernel
theorem d_R_copy_68 : decode I_R_copy.2.1 68 = .ok (.ifCond .lt 43, 3) := by decide +kernel
theorem d_R_copy_71 : decode I_R_copy.2.1 71 = .ok (.iload 5, 2) := by decide +kernel
theorem d_R_copy_73 : decode I_R_copy.2.1 73 = .ok (.ifCond .lt 38, 3) := by decide +kernel
theorem d_R_copy_76 : decode I_R_copy.2.1 76 = .ok (.iload_n 2, 1) := by decide +kernel
theorem d_R_copy_77 : decode I_R_copy.2.1 77 = .ok (.i2l, 1) := by decide +kernel
theorem d_R_copy_78 : decode I_R_copy.2.1 78 = .ok (.iload 5, 2) := by decide +kernel
theorem d_R_copy_80 : decode I_R_copy.2.1 80 = .ok (.i2l, 1) := by decide +kernel
theorem d_R_copy_81 : decode I_R_copy.2.1 81 = .ok (.ladd, 1) := by decide +kernel
theorem d_R_copy_82 : decode I_R_copy.2.1 82 = .ok (.aload_n 0, 1) := by decide +kernel
theorem d_R_copy_83 : decode I_R_copy.2.1 83 = .ok (.getfield 74, 3) := by decide +kernel
theorem d_R_copy_86 : decode I_R_copy.2.1 86 = .ok (.iload_n 1, 1) := by decide +kernel
theorem d_R_copy_87 : decode I_R_copy.2.1 87 = .ok (.iaload, 1) := by decide +kernel
theorem d_R_copy_88 : decode I_R_copy.2.1 88 = .ok (.i2l, 1) := by decide +kernel
theorem d_R_copy_89 : decode I_R_copy.2.1 89 = .ok (.lcmp, 1) := by decide +kernel
theorem d_R_copy_90 : decode I_R_copy.2.1 90 = .ok (.ifCond .gt 21, 3) := by decide +kernel
theorem d_R_copy_93 : decode I_R_copy.2.1 93 = .ok (.iload 4, 2) := by decide +kernel
theorem d_R_copy_95 : decode I_R_copy.2.1 95 = .ok (.i2l, 1) := by decide +kernel
theorem d_R_copy_96 : decode I_R_copy.2.1 96 = .ok (.iload 5, 2) := by decide +kernel
theorem d_R_copy_98 : decode I_R_copy.2.1 98 = .ok (.i2l, 1) := by decide +kernel
theorem d_R_copy_99 : decode I_R_copy.2.1 99 = .ok (.ladd, 1) := by decide +kernel
theorem d_R_copy_100 : decode I_R_copy.2.1 100 = .ok (.aload_n 0, 1) := by decide +kernel
theorem d_R_copy_101 : decode I_R_copy.2.1 101 = .ok (.getfield 74, 3) := by decide +kernel
theorem d_R_copy_104 : decode I_R_copy.2.1 104 = .ok (.iload_n 3, 1) := by decide +kernel
theorem d_R_copy_105 : decode I_R_copy.2.1 105 = .ok (.iaload, 1) := by decide +kernel
theorem d_R_copy_106 : decode I_R_copy.2.1 106 = .ok (.i2l, 1) := by decide +kernel
theorem d_R_copy_107 : decode I_R_copy.2.1 107 = .ok (.lcmp, 1) := by decide +kernel
theorem d_R_copy_108 : decode I_R_copy.2.1 108 = .ok (.ifCond .le 9, 3) := by decide +kernel
theorem d_R_copy_111 : decode I_R_copy.2.1 111 = .ok (.aload_n 0, 1) := by decide +kernel
theorem d_R_copy_112 : decode I_R_copy.2.1 112 = .ok (.iconst 2, 1) := by decide +kernel
theorem d_R_copy_113 : decode I_R_copy.2.1 113 = .ok (.invokevirtual 138, 3) := by decide +kernel
theorem d_R_copy_116 : decode I_R_copy.2.1 116 = .ok (.ireturn, 1) := by decide +kernel
theorem d_R_copy_117 : decode I_R_copy.2.1 117 = .ok (.iconst 0, 1) := by decide +kernel
theorem d_R_copy_118 : decode I_R_copy.2.1 118 = .ok (.istore 6, 2) := by decide +kernel
theorem d_R_copy_120 : decode I_R_copy.2.1 120 = .ok (.iload 6, 2) := by decide +kernel
theorem d_R_copy_122 : decode I_R_copy.2.1 122 = .ok (.iload 5, 2) := by decide +kernel
theorem d_R_copy_124 : decode I_R_copy.2.1 124 = .ok (.if_icmp .ge 30, 3) := by decide +kernel
theorem d_R_copy_127 : decode I_R_copy.2.1 127 = .ok (.aload_n 0, 1) := by decide +kernel
theorem d_R_copy_128 : decode I_R_copy.2.1 128 = .ok (.getfield 80, 3) := by decide +kernel
theorem d_R_copy_131 : decode I_R_copy.2.1 131 = .ok (.iload 6, 2) := by decide +kernel
theorem d_R_copy_133 : decode I_R_copy.2.1 133 = .ok (.aload_n 0, 1) := by decide +kernel
theorem d_R_copy_134 : decode I_R_copy.2.1 134 = .ok (.getfield 77, 3) := by decide +kernel
theorem d_R_copy_137 : decode I_R_copy.2.1 137 = .ok (.bipush 48, 2) := by decide +kernel
theorem d_R_copy_139 : decode I_R_copy.2.1 139 = .ok (.iload_n 1, 1) := by decide +kernel
theorem d_R_copy_140 : decode I_R_copy.2.1 140 = .ok (.imul, 1) := by decide +kernel
theorem d_R_copy_141 : decode I_R_copy.2.1 141 = .ok (.iload_n 2, 1) := by decide +kernel
theorem d_R_copy_142 : decode I_R_copy.2.1 142 = .ok (.iadd, 1) := by decide +kernel
theorem d_R_copy_143 : decode I_R_copy.2.1 143 = .ok (.iload 6, 2) := by decide +kernel
theorem d_R_copy_145 : decode I_R_copy.2.1 145 = .ok (.iadd, 1) := by decide +kernel
theorem d_R_copy_146 : decode I_R_copy.2.1 146 = .ok (.iaload, 1) := by decide +kernel
theorem d_R_copy_147 : decode I_R_copy.2.1 147 = .ok (.iastore, 1) := by decide +kernel
theorem d_R_copy_148 : decode I_R_copy.2.1 148 = .ok (.iinc 6 1, 3) := by decide +kernel
theorem d_R_copy_151 : decode I_R_copy.2.1 151 = .ok (.goto (-31), 3) := by decide +kernel
theorem d_R_copy_154 : decode I_R_copy.2.1 154 = .ok (.iconst 0, 1) := by decide +kernel
theorem d_R_copy_155 : decode I_R_copy.2.1 155 = .ok (.istore 6, 2) := by decide +kernel
theorem d_R_copy_157 : decode I_R_copy.2.1 157 = .ok (.iload 6, 2) := by decide +kernel
theorem d_R_copy_159 : decode I_R_copy.2.1 159 = .ok (.iload 5, 2) := by decide +kernel
theorem d_R_copy_161 : decode I_R_copy.2.1 161 = .ok (.if_icmp .ge 31, 3) := by decide +kernel
theorem d_R_copy_164 : decode I_R_copy.2.1 164 = .ok (.aload_n 0, 1) := by decide +kernel
theorem d_R_copy_165 : decode I_R_copy.2.1 165 = .ok (.getfield 77, 3) := by decide +kernel
theorem d_R_copy_168 : decode I_R_copy.2.1 168 = .ok (.bipush 48, 2) := by decide +kernel
theorem d_R_copy_170 : decode I_R_copy.2.1 170 = .ok (.iload_n 3, 1) := by decide +kernel
theorem d_R_copy_171 : decode I_R_copy.2.1 171 = .ok (.imul, 1) := by decide +kernel
theorem d_R_copy_172 : decode I_R_copy.2.1 172 = .ok (.iload 4, 2) := by decide +kernel
theorem d_R_copy_174 : decode I_R_copy.2.1 174 = .ok (.iadd, 1) := by decide +kernel
theorem d_R_copy_175 : decode I_R_copy.2.1 175 = .ok (.iload 6, 2) := by decide +kernel
theorem d_R_copy_177 : decode I_R_copy.2.1 177 = .ok (.iadd, 1) := by decide +kernel
theorem d_R_copy_178 : decode I_R_copy.2.1 178 = .ok (.aload_n 0, 1) := by decide +kernel
theorem d_R_copy_179 : decode I_R_copy.2.1 179 = .ok (.getfield 80, 3) := by decide +kernel
theorem d_R_copy_182 : decode I_R_copy.2.1 182 = .ok (.iload 6, 2) := by decide +kernel
theorem d_R_copy_184 : decode I_R_copy.2.1 184 = .ok (.iaload, 1) := by decide +kernel
theorem d_R_copy_185 : decode I_R_copy.2.1 185 = .ok (.iastore, 1) := by decide +kernel
theorem d_R_copy_186 : decode I_R_copy.2.1 186 = .ok (.iinc 6 1, 3) := by decide +kernel
theorem d_R_copy_189 : decode I_R_copy.2.1 189 = .ok (.goto (-32), 3) := by decide +kernel
theorem d_R_copy_192 : decode I_R_copy.2.1 192 = .ok (.iconst 1, 1) := by decide +kernel
theorem d_R_copy_193 : decode I_R_copy.2.1 193 = .ok (.ireturn, 1) := by decide +kernel
theorem d_R_write_0 : decode I_R_write.2.1 0 = .ok (.iload_n 1, 1) := by decide +kernel
theorem d_R_write_1 : decode I_R_write.2.1 1 = .ok (.iconst 0, 1) := by decide +kernel
theorem d_R_write_2 : decode I_R_write.2.1 2 = .ok (.iconst 1, 1) := by decide +kernel
theorem d_R_write_3 : decode I_R_write.2.1 3 = .ok (.invokestatic 95, 3) := by decide +kernel
theorem d_R_write_6 : decode I_R_write.2.1 6 = .ok (.ifCond .eq 10, 3) := by decide +kernel
theorem d_R_write_9 : decode I_R_write.2.1 9 = .ok (.iload_n 2, 1) := by decide +kernel
theorem d_R_write_10 : decode I_R_write.2.1 10 = .ok (.invokestatic 135, 3) := by decide +kernel
theorem d_R_write_13 : decode I_R_write.2.1 13 = .ok (.ifCond .ne 6, 3) := by decide +kernel
theorem d_R_write_16 : decode I_R_write.2.1 16 = .ok (.bipush (-2), 2) := by decide +kernel
theorem d_R_write_18 : decode I_R_write.2.1 18 = .ok (.ireturn, 1) := by decide +kernel
theorem d_R_write_19 : decode I_R_write.2.1 19 = .ok (.aload_n 0, 1) := by decide +kernel
theorem d_R_write_20 : decode I_R_write.2.1 20 = .ok (.getfield 68, 3) := by decide +kernel
theorem d_R_write_23 : decode I_R_write.2.1 23 = .ok (.iload_n 2, 1) := by decide +kernel
theorem d_R_write_24 : decode I_R_write.2.1 24 = .ok (.baload, 1) := by decide +kernel
theorem d_R_write_25 : decode I_R_write.2.1 25 = .ok (.ifCond .ne 9, 3) := by decide +kernel
theorem d_R_write_28 : decode I_R_write.2.1 28 = .ok (.aload_n 0, 1) := by decide +kernel
theorem d_R_write_29 : decode I_R_write.2.1 29 = .ok (.iconst 1, 1) := by decide +kernel
theorem d_R_write_30 : decode I_R_write.2.1 30 = .ok (.invokevirtual 138, 3) := by decide +kernel
theorem d_R_write_33 : decode I_R_write.2.1 33 = .ok (.ireturn, 1) := by decide +kernel
theorem d_R_write_34 : decode I_R_write.2.1 34 = .ok (.aload_n 0, 1) := by decide +kernel
theorem d_R_write_35 : decode I_R_write.2.1 35 = .ok (.iload_n 1, 1) := by decide +kernel
theorem d_R_write_36 : decode I_R_write.2.1 36 = .ok (.bipush 29, 2) := by decide +kernel
theorem d_R_write_38 : decode I_R_write.2.1 38 = .ok (.invokevirtual 179, 3) := by decide +kernel
theorem d_R_write_41 : decode I_R_write.2.1 41 = .ok (.iconst 0, 1) := by decide +kernel
theorem d_R_write_42 : decode I_R_write.2.1 42 = .ok (.istore_n 3, 1) := by decide +kernel
theorem d_R_write_43 : decode I_R_write.2.1 43 = .ok (.iload_n 3, 1) := by decide +kernel
theorem d_R_write_44 : decode I_R_write.2.1 44 = .ok (.aload_n 0, 1) := by decide +kernel
theorem d_R_write_45 : decode I_R_write.2.1 45 = .ok (.getfield 74, 3) := by decide +kernel
theorem d_R_write_48 : decode I_R_write.2.1 48 = .ok (.iload_n 2, 1) := by decide +kernel
theorem d_R_write_49 : decode I_R_write.2.1 49 = .ok (.iaload, 1) := by decide +kernel
theorem d_R_write_50 : decode I_R_write.2.1 50 = .ok (.if_icmp .ge 27, 3) := by decide +kernel
theorem d_R_write_53 : decode I_R_write.2.1 53 = .ok (.iload_n 3, 1) := by decide +kernel
theorem d_R_write_54 : decode I_R_write.2.1 54 = .ok (.bipush 30, 2) := by decide +kernel
theorem d_R_write_56 : decode I_R_write.2.1 56 = .ok (.if_icmp .ge 21, 3) := by decide +kernel
theorem d_R_write_59 : decode I_R_write.2.1 59 = .ok (.aload_n 0, 1) := by decide +kernel
theorem d_R_write_60 : decode I_R_write.2.1 60 = .ok (.iload_n 2, 1) := by decide +kernel
theorem d_R_write_61 : decode I_R_write.2.1 61 = .ok (.iload_n 3, 1) := by decide +kernel
theorem d_R_write_62 : decode I_R_write.2.1 62 = .ok (.aload_n 0, 1) := by decide +kernel
theorem d_R_write_63 : decode I_R_write.2.1 63 = .ok (.getfield 43, 3) := by decide +kernel
theorem d_R_write_66 : decode I_R_write.2.1 66 = .ok (.iload_n 3, 1) := by decide +kernel
theorem d_R_write_67 : decode I_R_write.2.1 67 = .ok (.iaload, 1) := by decide +kernel
theorem d_R_write_68 : decode I_R_write.2.1 68 = .ok (.invokevirtual 295, 3) := by decide +kernel
theorem d_R_write_71 : decode I_R_write.2.1 71 = .ok (.iinc 3 1, 3) := by decide +kernel
theorem d_R_write_74 : decode I_R_write.2.1 74 = .ok (.goto (-31), 3) := by decide +kernel
theorem d_R_write_77 : decode I_R_write.2.1 77 = .ok (.iload_n 3, 1) := by decide +kernel
theorem d_R_write_78 : decode I_R_write.2.1 78 = .ok (.ireturn, 1) := by decide +kernel
theorem d_R_countsMany_0 : decode I_R_countsMany.2.1 0 = .ok (.aload_n 0, 1) := by decide +kernel
theorem d_R_countsMany_1 : decode I_R_countsMany.2.1 1 = .ok (.invokevirtual 109, 3) := by decide +kernel
theorem d_R_countsMany_4 : decode I_R_countsMany.2.1 4 = .ok (.iconst 0, 1) := by decide +kernel
theorem d_R_countsMany_5 : decode I_R_countsMany.2.1 5 = .ok (.istore_n 2, 1) := by decide +kernel
theorem d_R_countsMany_6 : decode I_R_countsMany.2.1 6 = .ok (.iconst 0, 1) := by decide +kernel
theorem d_R_countsMany_7 : decode I_R_countsMany.2.1 7 = .ok (.istore_n 3, 1) := by decide +kernel
theorem d_R_countsMany_8 : decode I_R_countsMany.2.1 8 = .ok (.iload_n 3, 1) := by decide +kernel
theorem d_R_countsMany_9 : decode I_R_countsMany.2.1 9 = .ok (.aload_n 0, 1) := by decide +kernel
theorem d_R_countsMany_10 : decode I_R_countsMany.2.1 10 = .ok (.getfield 132, 3) := by decide +kernel
theorem d_R_countsMany_13 : decode I_R_countsMany.2.1 13 = .ok (.if_icmp .ge 46, 3) := by decide +kernel
theorem d_R_countsMany_16 : decode I_R_countsMany.2.1 16 = .ok (.iload_n 2, 1) := by decide +kernel
theorem d_R_countsMany_17 : decode I_R_countsMany.2.1 17 = .ok (.aload_n 0, 1) := by decide +kernel
theorem d_R_countsMany_18 : decode I_R_countsMany.2.1 18 = .ok (.getfield 22, 3) := by decide +kernel
theorem d_R_countsMany_21 : decode I_R_countsMany.2.1 21 = .ok (.iload_n 3, 1) := by decide +kernel
theorem d_R_countsMany_22 : decode I_R_countsMany.2.1 22 = .ok (.iaload, 1) := by decide +kernel
theorem d_R_countsMany_23 : decode I_R_countsMany.2.1 23 = .ok (.aload_n 0, 1) := by decide +kernel
theorem d_R_countsMany_24 : decode I_R_countsMany.2.1 24 = .ok (.getfield 102, 3) := by decide +kernel
theorem d_R_countsMany_27 : decode I_R_countsMany.2.1 27 = .ok (.if_icmp .ge 23, 3) := by decide +kernel
theorem d_R_countsMany_30 : decode I_R_countsMany.2.1 30 = .ok (.aload_n 0, 1) := by decide +kernel
theorem d_R_countsMany_31 : decode I_R_countsMany.2.1 31 = .ok (.getfield 123, 3) := by decide +kernel
theorem d_R_countsMany_34 : decode I_R_countsMany.2.1 34 = .ok (.aload_n 0, 1) := by decide +kernel
theorem d_R_countsMany_35 : decode I_R_countsMany.2.1 35 = .ok (.getfield 19, 3) := by decide +kernel
theorem d_R_countsMany_38 : decode I_R_countsMany.2.1 38 = .ok (.iload_n 3, 1) := by decide +kernel
theorem d_R_countsMany_39 : decode I_R_countsMany.2.1 39 = .ok (.iaload, 1) := by decide +kernel
theorem d_R_countsMany_40 : decode I_R_countsMany.2.1 40 = .ok (.invokestatic 155, 3) := by decide +kernel
theorem d_R_countsMany_43 : decode I_R_countsMany.2.1 43 = .ok (.ifCond .ne 7, 3) := by decide +kernel
theorem d_R_countsMany_46 : decode I_R_countsMany.2.1 46 = .ok (.iconst 1, 1) := by decide +kernel
theorem d_R_countsMany_47 : decode I_R_countsMany.2.1 47 = .ok (.goto 4, 3) := by decide +kernel
theorem d_R_countsMany_50 : decode I_R_countsMany.2.1 50 = .ok (.iconst 0, 1) := by decide +kernel
theorem d_R_countsMany_51 : decode I_R_countsMany.2.1 51 = .ok (.iadd, 1) := by decide +kernel
theorem d_R_countsMany_52 : decode I_R_countsMany.2.1 52 = .ok (.istore_n 2, 1) := by decide +kernel
theorem d_R_countsMany_53 : decode I_R_countsMany.2.1 53 = .ok (.iinc 3 1, 3) := by decide +kernel
theorem d_R_countsMany_56 : decode I_R_countsMany.2.1 56 = .ok (.goto (-48), 3) := by decide +kernel
theorem d_R_countsMany_59 : decode I_R_countsMany.2.1 59 = .ok (.iload_n 1, 1) := by decide +kernel
theorem d_R_countsMany_60 : decode I_R_countsMany.2.1 60 = .ok (.ifCond .ne 10, 3) := by decide +kernel
theorem d_R_countsMany_63 : decode I_R_countsMany.2.1 63 = .ok (.aload_n 0, 1) := by decide +kernel
theorem d_R_countsMany_64 : decode I_R_countsMany.2.1 64 = .ok (.getfield 102, 3) := by decide +kernel
theorem d_R_countsMany_67 : decode I_R_countsMany.2.1 67 = .ok (.goto 4, 3) := by decide +kernel
theorem d_R_countsMany_70 : decode I_R_countsMany.2.1 70 = .ok (.iload_n 2, 1) := by decide +kernel
theorem d_R_countsMany_71 : decode I_R_countsMany.2.1 71 = .ok (.ireturn, 1) := by decide +kernel
theorem d_R_count_0 : decode I_R_count.2.1 0 = .ok (.iload_n 1, 1) := by decide +kernel
theorem d_R_count_1 : decode I_R_count.2.1 1 = .ok (.tableswitch 92 0 8 #[51, 57, 62, 51, 67, 72, 77, 82, 87], 51) := by decide +kernel
theorem d_R_count_52 : decode I_R_count.2.1 52 = .ok (.aload_n 0, 1) := by decide +kernel
theorem d_R_count_53 : decode I_R_count.2.1 53 = .ok (.iload_n 1, 1) := by decide +kernel
theorem d_R_count_54 : decode I_R_count.2.1 54 = .ok (.invokevirtual 299, 3) := by decide +kernel
theorem d_R_count_57 : decode I_R_count.2.1 57 = .ok (.ireturn, 1) := by decide +kernel
theorem d_R_count_58 : decode I_R_count.2.1 58 = .ok (.aload_n 0, 1) := by decide +kernel
theorem d_R_count_59 : decode I_R_count.2.1 59 = .ok (.getfield 99, 3) := by decide +kernel
theorem d_R_count_62 : decode I_R_count.2.1 62 = .ok (.ireturn, 1) := by decide +kernel
theorem d_R_count_63 : decode I_R_count.2.1 63 = .ok (.aload_n 0, 1) := by decide +kernel
theorem d_R_count_64 : decode I_R_count.2.1 64 = .ok (.getfield 132, 3) := by decide +kernel
theorem d_R_count_67 : decode I_R_count.2.1 67 = .ok (.ireturn, 1) := by decide +kernel
theorem d_R_count_68 : decode I_R_count.2.1 68 = .ok (.aload_n 0, 1) := by decide +kernel
theorem d_R_count_69 : decode I_R_count.2.1 69 = .ok (.getfield 240, 3) := by decide +kernel
theorem d_R_count_72 : decode I_R_count.2.1 72 = .ok (.ireturn, 1) := by decide +kernel
theorem d_R_count_73 : decode I_R_count.2.1 73 = .ok (.aload_n 0, 1) := by decide +kernel
theorem d_R_count_74 : decode I_R_count.2.1 74 = .ok (.getfield 83, 3) := by decide +kernel
theorem d_R_count_77 : decode I_R_count.2.1 77 = .ok (.ireturn, 1) := by decide +kernel
theorem d_R_count_78 : decode I_R_count.2.1 78 = .ok (.aload_n 0, 1) := by decide +kernel
theorem d_R_count_79 : decode I_R_count.2.1 79 = .ok (.getfield 87, 3) := by decide +kernel
theorem d_R_count_82 : decode I_R_count.2.1 82 = .ok (.ireturn, 1) := by decide +kernel
theorem d_R_count_83 : decode I_R_count.2.1 83 = .ok (.aload_n 0, 1) := by decide +kernel
theorem d_R_count_84 : decode I_R_count.2.1 84 = .ok (.getfield 123, 3) := by decide +kernel
theorem d_R_count_87 : decode I_R_count.2.1 87 = .ok (.ireturn, 1) := by decide +kernel
theorem d_R_count_88 : decode I_R_count.2.1 88 = .ok (.aload_n 0, 1) := by decide +kernel
theorem d_R_count_89 : decode I_R_count.2.1 89 = .ok (.getfield 289, 3) := by decide +kernel
theorem d_R_count_92 : decode I_R_count.2.1 92 = .ok (.ireturn, 1) := by decide +kernel
theorem d_R_count_93 : decode I_R_count.2.1 93 = .ok (.bipush (-2), 2) := by decide +kernel
theorem d_R_count_95 : decode I_R_count.2.1 95 = .ok (.ireturn, 1) := by decide +kernel
theorem d_R_heirDigest_0 : decode I_R_heirDigest.2.1 0 = .ok (.lload_n 1, 1) := by decide +kernel
theorem d_R_heirDigest_1 : decode I_R_heirDigest.2.1 1 = .ok (.lstore 4, 2) := by decide +kernel
theorem d_R_heirDigest_3 : decode I_R_heirDigest.2.1 3 = .ok (.iconst 0, 1) := by decide +kernel
theorem d_R_heirDigest_4 : decode I_R_heirDigest.2.1 4 = .ok (.istore 6, 2) := by decide +kernel
theorem d_R_heirDigest_6 : decode I_R_heirDigest.2.1 6 = .ok (.iload 6, 2) := by decide +kernel
theorem d_R_heirDigest_8 : decode I_R_heirDigest.2.1 8 = .ok (.iconst 3, 1) := by decide +kernel
theorem d_R_heirDigest_9 : decode I_R_heirDigest.2.1 9 = .ok (.if_icmp .ge 30, 3) := by decide +kernel
theorem d_R_heirDigest_12 : decode I_R_heirDigest.2.1 12 = .ok (.ldc2_w 302, 3) := by decide +kernel
theorem d_R_heirDigest_15 : decode I_R_heirDigest.2.1 15 = .ok (.lload 4, 2) := by decide +kernel
theorem d_R_heirDigest_17 : decode I_R_heirDigest.2.1 17 = .ok (.lmul, 1) := by decide +kernel
theorem d_R_heirDigest_18 : decode I_R_heirDigest.2.1 18 = .ok (.aload_n 0, 1) := by decide +kernel
theorem d_R_heirDigest_19 : decode I_R_heirDigest.2.1 19 = .ok (.getfield 13, 3) := by decide +kernel
theorem d_R_heirDigest_22 : decode I_R_heirDigest.2.1 22 = .ok (.iconst 3, 1) := by decide +kernel
theorem d_R_heirDigest_23 : decode I_R_heirDigest.2.1 23 = .ok (.iload_n 3, 1) := by decide +kernel
theorem d_R_heirDigest_24 : decode I_R_heirDigest.2.1 24 = .ok (.imul, 1) := by decide +kernel
theorem d_R_heirDigest_25 : decode I_R_heirDigest.2.1 25 = .ok (.iload 6, 2) := by decide +kernel
theorem d_R_heirDigest_27 : decode I_R_heirDigest.2.1 27 = .ok (.iadd, 1) := by decide +kernel
theorem d_R_heirDigest_28 : decode I_R_heirDigest.2.1 28 = .ok (.iaload, 1) := by decide +kernel
theorem d_R_heirDigest_29 : decode I_R_heirDigest.2.1 29 = .ok (.i2l, 1) := by decide +kernel
theorem d_R_heirDigest_30 : decode I_R_heirDigest.2.1 30 = .ok (.ladd, 1) := by decide +kernel
theorem d_R_heirDigest_31 : decode I_R_heirDigest.2.1 31 = .ok (.lstore 4, 2) := by decide +kernel
theorem d_R_heirDigest_33 : decode I_R_heirDigest.2.1 33 = .ok (.iinc 6 1, 3) := by decide +kernel
theorem d_R_heirDigest_36 : decode I_R_heirDigest.2.1 36 = .ok (.goto (-30), 3) := by decide +kernel
theorem d_R_heirDigest_39 : decode I_R_heirDigest.2.1 39 = .ok (.ldc2_w 302, 3) := by decide +kernel
theorem d_R_heirDigest_42 : decode I_R_heirDigest.2.1 42 = .ok (.lload 4, 2) := by decide +kernel
theorem d_R_heirDigest_44 : decode I_R_heirDigest.2.1 44 = .ok (.lmul, 1) := by decide +kernel
theorem d_R_heirDigest_45 : decode I_R_heirDigest.2.1 45 = .ok (.aload_n 0, 1) := by decide +kernel
theorem d_R_heirDigest_46 : decode I_R_heirDigest.2.1 46 = .ok (.iconst 0, 1) := by decide +kernel
theorem d_R_heirDigest_47 : decode I_R_heirDigest.2.1 47 = .ok (.bipush 9, 2) := by decide +kernel
theorem d_R_heirDigest_49 : decode I_R_heirDigest.2.1 49 = .ok (.iload_n 3, 1) := by decide +kernel
theorem d_R_heirDigest_50 : decode I_R_heirDigest.2.1 50 = .ok (.invokevirtual 182, 3) := by decide +kernel
theorem d_R_heirDigest_53 : decode I_R_heirDigest.2.1 53 = .ok (.i2l, 1) := by decide +kernel
theorem d_R_heirDigest_54 : decode I_R_heirDigest.2.1 54 = .ok (.ladd, 1) := by decide +kernel
theorem d_R_heirDigest_55 : decode I_R_heirDigest.2.1 55 = .ok (.lstore 4, 2) := by decide +kernel
theorem d_R_heirDigest_57 : decode I_R_heirDigest.2.1 57 = .ok (.ldc2_w 302, 3) := by decide +kernel
theorem d_R_heirDigest_60 : decode I_R_heirDigest.2.1 60 = .ok (.lload 4, 2) := by decide +kernel
theorem d_R_heirDigest_62 : decode I_R_heirDigest.2.1 62 = .ok (.lmul, 1) := by decide +kernel
theorem d_R_heirDigest_63 : decode I_R_heirDigest.2.1 63 = .ok (.aload_n 0, 1) := by decide +kernel
theorem d_R_heirDigest_64 : decode I_R_heirDigest.2.1 64 = .ok (.iconst 1, 1) := by decide +kernel
theorem d_R_heirDigest_65 : decode I_R_heirDigest.2.1 65 = .ok (.bipush 29, 2) := by decide +kernel
theorem d_R_heirDigest_67 : decode I_R_heirDigest.2.1 67 = .ok (.iload_n 3, 1) := by decide +kernel
theorem d_R_heirDigest_68 : decode I_R_heirDigest.2.1 68 = .ok (.invokevirtual 182, 3) := by decide +kernel
theorem d_R_heirDigest_71 : decode I_R_heirDigest.2.1 71 = .ok (.i2l, 1) := by decide +kernel
theorem d_R_heirDigest_72 : decode I_R_heirDigest.2.1 72 = .ok (.ladd, 1) := by decide +kernel
theorem d_R_heirDigest_73 : decode I_R_heirDigest.2.1 73 = .ok (.lstore 4, 2) := by decide +kernel
theorem d_R_heirDigest_75 : decode I_R_heirDigest.2.1 75 = .ok (.ldc2_w 302, 3) := by decide +kernel
theorem d_R_heirDigest_78 : decode I_R_heirDigest.2.1 78 = .ok (.lload 4, 2) := by decide +kernel
theorem d_R_heirDigest_80 : decode I_R_heirDigest.2.1 80 = .ok (.lmul, 1) := by decide +kernel
theorem d_R_heirDigest_81 : decode I_R_heirDigest.2.1 81 = .ok (.aload_n 0, 1) := by decide +kernel
theorem d_R_heirDigest_82 : decode I_R_heirDigest.2.1 82 = .ok (.iconst 5, 1) := by decide +kernel
theorem d_R_heirDigest_83 : decode I_R_heirDigest.2.1 83 = .ok (.iload_n 3, 1) := by decide +kernel
theorem d_R_heirDigest_84 : decode I_R_heirDigest.2.1 84 = .ok (.iconst 0, 1) := by decide +kernel
theorem d_R_heirDigest_85 : decode I_R_heirDigest.2.1 85 = .ok (.invokevirtual 197, 3) := by decide +kernel
theorem d_R_heirDigest_88 : decode I_R_heirDigest.2.1 88 = .ok (.ladd, 1) := by decide +kernel
theorem d_R_heirDigest_89 : decode I_R_heirDigest.2.1 89 = .ok (.lstore 4, 2) := by decide +kernel
theorem d_R_heirDigest_91 : decode I_R_heirDigest.2.1 91 = .ok (.ldc2_w 302, 3) := by decide +kernel
theorem d_R_heirDigest_94 : decode I_R_heirDigest.2.1 94 = .ok (.lload 4, 2) := by decide +kernel
theorem d_R_heirDigest_96 : decode I_R_heirDigest.2.1 96 = .ok (.lmul, 1) := by decide +kernel
theorem d_R_heirDigest_97 : decode I_R_heirDigest.2.1 97 = .ok (.aload_n 0, 1) := by decide +kernel
theorem d_R_heirDigest_98 : decode I_R_heirDigest.2.1 98 = .ok (.iconst 5, 1) := by decide +kernel
theorem d_R_heirDigest_99 : decode I_R_heirDigest.2.1 99 = .ok (.iload_n 3, 1) := by decide +kernel
theorem d_R_heirDigest_100 : decode I_R_heirDigest.2.1 100 = .ok (.iconst 1, 1) := by decide +kernel
theorem d_R_heirDigest_101 : decode I_R_heirDigest.2.1 101 = .ok (.invokevirtual 197, 3) := by decide +kernel
theorem d_R_heirDigest_104 : decode I_R_heirDigest.2.1 104 = .ok (.ladd, 1) := by decide +kernel
theorem d_R_heirDigest_105 : decode I_R_heirDigest.2.1 105 = .ok (.lstore 4, 2) := by decide +kernel
theorem d_R_heirDigest_107 : decode I_R_heirDigest.2.1 107 = .ok (.aload_n 0, 1) := by decide +kernel
theorem d_R_heirDigest_108 : decode I_R_heirDigest.2.1 108 = .ok (.iload_n 3, 1) := by decide +kernel
theorem d_R_heirDigest_109 : decode I_R_heirDigest.2.1 109 = .ok (.iconst 4, 1) := by decide +kernel
theorem d_R_heirDigest_110 : decode I_R_heirDigest.2.1 110 = .ok (.iconst (-1), 1) := by decide +kernel
theorem d_R_heirDigest_111 : decode I_R_heirDigest.2.1 111 = .ok (.invokevirtual 227, 3) := by decide +kernel
theorem d_R_heirDigest_114 : decode I_R_heirDigest.2.1 114 = .ok (.istore 6, 2) := by decide +kernel
theorem d_R_heirDigest_116 : decode I_R_heirDigest.2.1 116 = .ok (.ldc2_w 302, 3) := by decide +kernel
theorem d_R_heirDigest_119 : decode I_R_heirDigest.2.1 119 = .ok (.lload 4, 2) := by decide +kernel
theorem d_R_heirDigest_121 : decode I_R_heirDigest.2.1 121 = .ok (.lmul, 1) := by decide +kernel
theorem d_R_heirDigest_122 : decode I_R_heirDigest.2.1 122 = .ok (.iload 6, 2) := by decide +kernel
theorem d_R_heirDigest_124 : decode I_R_heirDigest.2.1 124 = .ok (.i2l, 1) := by decide +kernel
theorem d_R_heirDigest_125 : decode I_R_heirDigest.2.1 125 = .ok (.ladd, 1) := by decide +kernel
theorem d_R_heirDigest_126 : decode I_R_heirDigest.2.1 126 = .ok (.lstore 4, 2) := by decide +kernel
theorem d_R_heirDigest_128 : decode I_R_heirDigest.2.1 128 = .ok (.ldc2_w 302, 3) := by decide +kernel
theorem d_R_heirDigest_131 : decode I_R_heirDigest.2.1 131 = .ok (.lload 4, 2) := by decide +kernel
theorem d_R_heirDigest_133 : decode I_R_heirDigest.2.1 133 = .ok (.lmul, 1) := by decide +kernel
theorem d_R_heirDigest_134 : decode I_R_heirDigest.2.1 134 = .ok (.iload 6, 2) := by decide +kernel
theorem d_R_heirDigest_136 : decode I_R_heirDigest.2.1 136 = .ok (.ifCond .le 12, 3) := by decide +kernel
theorem d_R_heirDigest_139 : decode I_R_heirDigest.2.1 139 = .ok (.aload_n 0, 1) := by decide +kernel
theorem d_R_heirDigest_140 : decode I_R_heirDigest.2.1 140 = .ok (.getfield 49, 3) := by decide +kernel
theorem d_R_heirDigest_143 : decode I_R_heirDigest.2.1 143 = .ok (.iconst 0, 1) := by decide +kernel
theorem d_R_heirDigest_144 : decode I_R_heirDigest.2.1 144 = .ok (.iaload, 1) := by decide +kernel
theorem d_R_heirDigest_145 : decode I_R_heirDigest.2.1 145 = .ok (.goto 4, 3) := by decide +kernel
theorem d_R_heirDigest_148 : decode I_R_heirDigest.2.1 148 = .ok (.iconst (-1), 1) := by decide +kernel
theorem d_R_heirDigest_149 : decode I_R_heirDigest.2.1 149 = .ok (.i2l, 1) := by decide +kernel
theorem d_R_heirDigest_150 : decode I_R_heirDigest.2.1 150 = .ok (.ladd, 1) := by decide +kernel
theorem d_R_heirDigest_151 : decode I_R_heirDigest.2.1 151 = .ok (.lstore 4, 2) := by decide +kernel
theorem d_R_heirDigest_153 : decode I_R_heirDigest.2.1 153 = .ok (.ldc2_w 302, 3) := by decide +kernel
theorem d_R_heirDigest_156 : decode I_R_heirDigest.2.1 156 = .ok (.lload 4, 2) := by decide +kernel
theorem d_R_heirDigest_158 : decode I_R_heirDigest.2.1 158 = .ok (.lmul, 1) := by decide +kernel
theorem d_R_heirDigest_159 : decode I_R_heirDigest.2.1 159 = .ok (.aload_n 0, 1) := by decide +kernel
theorem d_R_heirDigest_160 : decode I_R_heirDigest.2.1 160 = .ok (.iconst 4, 1) := by decide +kernel
theorem d_R_heirDigest_161 : decode I_R_heirDigest.2.1 161 = .ok (.iload_n 3, 1) := by decide +kernel
theorem d_R_heirDigest_162 : decode I_R_heirDigest.2.1 162 = .ok (.iconst 5, 1) := by decide +kernel
theorem d_R_heirDigest_163 : decode I_R_heirDigest.2.1 163 = .ok (.iconst 0, 1) := by decide +kernel
theorem d_R_heirDigest_164 : decode I_R_heirDigest.2.1 164 = .ok (.invokevirtual 278, 3) := by decide +kernel
theorem d_R_heirDigest_167 : decode I_R_heirDigest.2.1 167 = .ok (.ladd, 1) := by decide +kernel
theorem d_R_heirDigest_168 : decode I_R_heirDigest.2.1 168 = .ok (.lstore 4, 2) := by decide +kernel
theorem d_R_heirDigest_170 : decode I_R_heirDigest.2.1 170 = .ok (.ldc2_w 302, 3) := by decide +kernel
theorem d_R_heirDigest_173 : decode I_R_heirDigest.2.1 173 = .ok (.lload 4, 2) := by decide +kernel
theorem d_R_heirDigest_175 : decode I_R_heirDigest.2.1 175 = .ok (.lmul, 1) := by decide +kernel
theorem d_R_heirDigest_176 : decode I_R_heirDigest.2.1 176 = .ok (.aload_n 0, 1) := by decide +kernel
theorem d_R_heirDigest_177 : decode I_R_heirDigest.2.1 177 = .ok (.iconst 4, 1) := by decide +kernel
theorem d_R_heirDigest_178 : decode I_R_heirDigest.2.1 178 = .ok (.iload_n 3, 1) := by decide +kernel
theorem d_R_heirDigest_179 : decode I_R_heirDigest.2.1 179 = .ok (.iconst 5, 1) := by decide +kernel
theorem d_R_heirDigest_180 : decode I_R_heirDigest.2.1 180 = .ok (.iconst 1, 1) := by decide +kernel
theorem d_R_heirDigest_181 : decode I_R_heirDigest.2.1 181 = .ok (.invokevirtual 278, 3) := by decide +kernel
theorem d_R_heirDigest_184 : decode I_R_heirDigest.2.1 184 = .ok (.ladd, 1) := by decide +kernel
theorem d_R_heirDigest_185 : decode I_R_heirDigest.2.1 185 = .ok (.lstore 4, 2) := by decide +kernel
theorem d_R_heirDigest_187 : decode I_R_heirDigest.2.1 187 = .ok (.ldc2_w 302, 3) := by decide +kernel
theorem d_R_heirDigest_190 : decode I_R_heirDigest.2.1 190 = .ok (.lload 4, 2) := by decide +kernel
theorem d_R_heirDigest_192 : decode I_R_heirDigest.2.1 192 = .ok (.lmul, 1) := by decide +kernel
theorem d_R_heirDigest_193 : decode I_R_heirDigest.2.1 193 = .ok (.aload_n 0, 1) := by decide +kernel
theorem d_R_heirDigest_194 : decode I_R_heirDigest.2.1 194 = .ok (.bipush 7, 2) := by decide +kernel
theorem d_R_heirDigest_196 : decode I_R_heirDigest.2.1 196 = .ok (.bipush 9, 2) := by decide +kernel
theorem d_R_heirDigest_198 : decode I_R_heirDigest.2.1 198 = .ok (.iload_n 3, 1) := by decide +kernel
theorem d_R_heirDigest_199 : decode I_R_heirDigest.2.1 199 = .ok (.invokevirtual 286, 3) := by decide +kernel
theorem d_R_heirDigest_202 : decode I_R_heirDigest.2.1 202 = .ok (.i2l, 1) := by decide +kernel
theorem d_R_heirDigest_203 : decode I_R_heirDigest.2.1 203 = .ok (.ladd, 1) := by decide +kernel
theorem d_R_heirDigest_204 : decode I_R_heirDigest.2.1 204 = .ok (.lreturn, 1) := by decide +kernel
theorem d_R_dayDigest_0 : decode I_R_dayDigest.2.1 0 = .ok (.ldc2_w 302, 3) := by decide +kernel
theorem d_R_dayDigest_3 : decode I_R_dayDigest.2.1 3 = .ok (.lload_n 1, 1) := by decide +kernel
theorem d_R_dayDigest_4 : decode I_R_dayDigest.2.1 4 = .ok (.lmul, 1) := by decide +kernel
theorem d_R_dayDigest_5 : decode I_R_dayDigest.2.1 5 = .ok (.aload_n 0, 1) := by decide +kernel
theorem d_R_dayDigest_6 : decode I_R_dayDigest.2.1 6 = .ok (.iconst 0, 1) := by decide +kernel
theorem d_R_dayDigest_7 : decode I_R_dayDigest.2.1 7 = .ok (.iload_n 3, 1) := by decide +kernel
theorem d_R_dayDigest_8 : decode I_R_dayDigest.2.1 8 = .ok (.invokevirtual 185, 3) := by decide +kernel
theorem d_R_dayDigest_11 : decode I_R_dayDigest.2.1 11 = .ok (.i2l, 1) := by decide +kernel
theorem d_R_dayDigest_12 : decode I_R_dayDigest.2.1 12 = .ok (.ladd, 1) := by decide +kernel
theorem d_R_dayDigest_13 : decode I_R_dayDigest.2.1 13 = .ok (.lstore 4, 2) := by decide +kernel
theorem d_R_dayDigest_15 : decode I_R_dayDigest.2.1 15 = .ok (.ldc2_w 302, 3) := by decide +kernel
theorem d_R_dayDigest_18 : decode I_R_dayDigest.2.1 18 = .ok (.lload 4, 2) := by decide +kernel
theorem d_R_dayDigest_20 : decode I_R_dayDigest.2.1 20 = .ok (.lmul, 1) := by decide +kernel
theorem d_R_dayDigest_21 : decode I_R_dayDigest.2.1 21 = .ok (.aload_n 0, 1) := by decide +kernel
theorem d_R_dayDigest_22 : decode I_R_dayDigest.2.1 22 = .ok (.iconst 1, 1) := by decide +kernel
theorem d_R_dayDigest_23 : decode I_R_dayDigest.2.1 23 = .ok (.iload_n 3, 1) := by decide +kernel
theorem d_R_dayDigest_24 : decode I_R_dayDigest.2.1 24 = .ok (.invokevirtual 185, 3) := by decide +kernel
theorem d_R_dayDigest_27 : decode I_R_dayDigest.2.1 27 = .ok (.i2l, 1) := by decide +kernel
theorem d_R_dayDigest_28 : decode I_R_dayDigest.2.1 28 = .ok (.ladd, 1) := by decide +kernel
theorem d_R_dayDigest_29 : decode I_R_dayDigest.2.1 29 = .ok (.lreturn, 1) := by decide +kernel
theorem d_R_digest_0 : decode I_R_digest.2.1 0 = .ok (.ldc2_w 304, 3) := by decide +kernel
theorem d_R_digest_3 : decode I_R_digest.2.1 3 = .ok (.lstore_n 1, 1) := by decide +kernel
theorem d_R_digest_4 : decode I_R_digest.2.1 4 = .ok (.iconst 0, 1) := by decide +kernel
theorem d_R_digest_5 : decode I_R_digest.2.1 5 = .ok (.istore_n 3, 1) := by decide +kernel
theorem d_R_digest_6 : decode I_R_digest.2.1 6 = .ok (.iload_n 3, 1) := by decide +kernel
theorem d_R_digest_7 : decode I_R_digest.2.1 7 = .ok (.bipush 8, 2) := by decide +kernel
theorem d_R_digest_9 : decode I_R_digest.2.1 9 = .ok (.if_icmp .ge 22, 3) := by decide +kernel
theorem d_R_digest_12 : decode I_R_digest.2.1 12 = .ok (.ldc2_w 302, 3) := by decide +kernel
theorem d_R_digest_15 : decode I_R_digest.2.1 15 = .ok (.lload_n 1, 1) := by decide +kernel
theorem d_R_digest_16 : decode I_R_digest.2.1 16 = .ok (.lmul, 1) := by decide +kernel
theorem d_R_digest_17 : decode I_R_digest.2.1 17 = .ok (.aload_n 0, 1) := by decide +kernel
theorem d_R_digest_18 : decode I_R_digest.2.1 18 = .ok (.iload_n 3, 1) := by decide +kernel
theorem d_R_digest_19 : decode I_R_digest.2.1 19 = .ok (.invokevirtual 306, 3) := by decide +kernel
theorem d_R_digest_22 : decode I_R_digest.2.1 22 = .ok (.i2l, 1) := by decide +kernel
theorem d_R_digest_23 : decode I_R_digest.2.1 23 = .ok (.ladd, 1) := by decide +kernel
theorem d_R_digest_24 : decode I_R_digest.2.1 24 = .ok (.lstore_n 1, 1) := by decide +kernel
theorem d_R_digest_25 : decode I_R_digest.2.1 25 = .ok (.iinc 3 1, 3) := by decide +kernel
theorem d_R_digest_28 : decode I_R_digest.2.1 28 = .ok (.goto (-22), 3) := by decide +kernel
theorem d_R_digest_31 : decode I_R_digest.2.1 31 = .ok (.ldc2_w 302, 3) := by decide +kernel
theorem d_R_digest_34 : decode I_R_digest.2.1 34 = .ok (.lload_n 1, 1) := by decide +kernel
theorem d_R_digest_35 : decode I_R_digest.2.1 35 = .ok (.lmul, 1) := by decide +kernel
theorem d_R_digest_36 : decode I_R_digest.2.1 36 = .ok (.aload_n 0, 1) := by decide +kernel
theorem d_R_digest_37 : decode I_R_digest.2.1 37 = .ok (.invokevirtual 105, 3) := by decide +kernel
theorem d_R_digest_40 : decode I_R_digest.2.1 40 = .ok (.i2l, 1) := by decide +kernel
theorem d_R_digest_41 : decode I_R_digest.2.1 41 = .ok (.ladd, 1) := by decide +kernel
theorem d_R_digest_42 : decode I_R_digest.2.1 42 = .ok (.lstore_n 1, 1) := by decide +kernel
theorem d_R_digest_43 : decode I_R_digest.2.1 43 = .ok (.iconst 0, 1) := by decide +kernel
theorem d_R_digest_44 : decode I_R_digest.2.1 44 = .ok (.istore_n 3, 1) := by decide +kernel
theorem d_R_digest_45 : decode I_R_digest.2.1 45 = .ok (.iload_n 3, 1) := by decide +kernel
theorem d_R_digest_46 : decode I_R_digest.2.1 46 = .ok (.aload_n 0, 1) := by decide +kernel
theorem d_R_digest_47 : decode I_R_digest.2.1 47 = .ok (.getfield 102, 3) := by decide +kernel
theorem d_R_digest_50 : decode I_R_digest.2.1 50 = .ok (.if_icmp .ge 16, 3) := by decide +kernel
theorem d_R_digest_53 : decode I_R_digest.2.1 53 = .ok (.aload_n 0, 1) := by decide +kernel
theorem d_R_digest_54 : decode I_R_digest.2.1 54 = .ok (.lload_n 1, 1) := by decide +kernel
theorem d_R_digest_55 : decode I_R_digest.2.1 55 = .ok (.iload_n 3, 1) := by decide +kernel
theorem d_R_digest_56 : decode I_R_digest.2.1 56 = .ok (.invokevirtual 309, 3) := by decide +kernel
theorem d_R_digest_59 : decode I_R_digest.2.1 59 = .ok (.lstore_n 1, 1) := by decide +kernel
theorem d_R_digest_60 : decode I_R_digest.2.1 60 = .ok (.iinc 3 1, 3) := by decide +kernel
theorem d_R_digest_63 : decode I_R_digest.2.1 63 = .ok (.goto (-18), 3) := by decide +kernel
theorem d_R_digest_66 : decode I_R_digest.2.1 66 = .ok (.aload_n 0, 1) := by decide +kernel
theorem d_R_digest_67 : decode I_R_digest.2.1 67 = .ok (.lload_n 1, 1) := by decide +kernel
theorem d_R_digest_68 : decode I_R_digest.2.1 68 = .ok (.iconst 0, 1) := by decide +kernel
theorem d_R_digest_69 : decode I_R_digest.2.1 69 = .ok (.invokevirtual 313, 3) := by decide +kernel
theorem d_R_digest_72 : decode I_R_digest.2.1 72 = .ok (.lstore_n 1, 1) := by decide +kernel
theorem d_R_digest_73 : decode I_R_digest.2.1 73 = .ok (.aload_n 0, 1) := by decide +kernel
theorem d_R_digest_74 : decode I_R_digest.2.1 74 = .ok (.lload_n 1, 1) := by decide +kernel
theorem d_R_digest_75 : decode I_R_digest.2.1 75 = .ok (.iconst 1, 1) := by decide +kernel
theorem d_R_digest_76 : decode I_R_digest.2.1 76 = .ok (.invokevirtual 313, 3) := by decide +kernel
theorem d_R_digest_79 : decode I_R_digest.2.1 79 = .ok (.lstore_n 1, 1) := by decide +kernel
theorem d_R_digest_80 : decode I_R_digest.2.1 80 = .ok (.aload_n 0, 1) := by decide +kernel
theorem d_R_digest_81 : decode I_R_digest.2.1 81 = .ok (.lload_n 1, 1) := by decide +kernel
theorem d_R_digest_82 : decode I_R_digest.2.1 82 = .ok (.bipush 9, 2) := by decide +kernel
theorem d_R_digest_84 : decode I_R_digest.2.1 84 = .ok (.invokevirtual 313, 3) := by decide +kernel
theorem d_R_digest_87 : decode I_R_digest.2.1 87 = .ok (.lstore_n 1, 1) := by decide +kernel
theorem d_R_digest_88 : decode I_R_digest.2.1 88 = .ok (.aload_n 0, 1) := by decide +kernel
theorem d_R_digest_89 : decode I_R_digest.2.1 89 = .ok (.lload_n 1, 1) := by decide +kernel
theorem d_R_digest_90 : decode I_R_digest.2.1 90 = .ok (.bipush 29, 2) := by decide +kernel
theorem d_R_digest_92 : decode I_R_digest.2.1 92 = .ok (.invokevirtual 313, 3) := by decide +kernel
theorem d_R_digest_95 : decode I_R_digest.2.1 95 = .ok (.lstore_n 1, 1) := by decide +kernel
theorem d_R_digest_96 : decode I_R_digest.2.1 96 = .ok (.ldc2_w 302, 3) := by decide +kernel
theorem d_R_digest_99 : decode I_R_digest.2.1 99 = .ok (.lload_n 1, 1) := by decide +kernel
theorem d_R_digest_100 : decode I_R_digest.2.1 100 = .ok (.lmul, 1) := by decide +kernel
theorem d_R_digest_101 : decode I_R_digest.2.1 101 = .ok (.aload_n 0, 1) := by decide +kernel
theorem d_R_digest_102 : decode I_R_digest.2.1 102 = .ok (.iconst 0, 1) := by decide +kernel
theorem d_R_digest_103 : decode I_R_digest.2.1 103 = .ok (.invokevirtual 207, 3) := by decide +kernel
theorem d_R_digest_106 : decode I_R_digest.2.1 106 = .ok (.i2l, 1) := by decide +kernel
theorem d_R_digest_107 : decode I_R_digest.2.1 107 = .ok (.ladd, 1) := by decide +kernel
theorem d_R_digest_108 : decode I_R_digest.2.1 108 = .ok (.lstore_n 1, 1) := by decide +kernel
theorem d_R_digest_109 : decode I_R_digest.2.1 109 = .ok (.ldc2_w 302, 3) := by decide +kernel
theorem d_R_digest_112 : decode I_R_digest.2.1 112 = .ok (.lload_n 1, 1) := by decide +kernel
theorem d_R_digest_113 : decode I_R_digest.2.1 113 = .ok (.lmul, 1) := by decide +kernel
theorem d_R_digest_114 : decode I_R_digest.2.1 114 = .ok (.aload_n 0, 1) := by decide +kernel
theorem d_R_digest_115 : decode I_R_digest.2.1 115 = .ok (.iconst 1, 1) := by decide +kernel
theorem d_R_digest_116 : decode I_R_digest.2.1 116 = .ok (.invokevirtual 207, 3) := by decide +kernel
theorem d_R_digest_119 : decode I_R_digest.2.1 119 = .ok (.i2l, 1) := by decide +kernel
theorem d_R_digest_120 : decode I_R_digest.2.1 120 = .ok (.ladd, 1) := by decide +kernel
theorem d_R_digest_121 : decode I_R_digest.2.1 121 = .ok (.lstore_n 1, 1) := by decide +kernel
theorem d_R_digest_122 : decode I_R_digest.2.1 122 = .ok (.ldc2_w 302, 3) := by decide +kernel
theorem d_R_digest_125 : decode I_R_digest.2.1 125 = .ok (.lload_n 1, 1) := by decide +kernel
theorem d_R_digest_126 : decode I_R_digest.2.1 126 = .ok (.lmul, 1) := by decide +kernel
theorem d_R_digest_127 : decode I_R_digest.2.1 127 = .ok (.aload_n 0, 1) := by decide +kernel
theorem d_R_digest_128 : decode I_R_digest.2.1 128 = .ok (.invokevirtual 210, 3) := by decide +kernel
theorem d_R_digest_131 : decode I_R_digest.2.1 131 = .ok (.i2l, 1) := by decide +kernel
theorem d_R_digest_132 : decode I_R_digest.2.1 132 = .ok (.ladd, 1) := by decide +kernel
theorem d_R_digest_133 : decode I_R_digest.2.1 133 = .ok (.lstore_n 1, 1) := by decide +kernel
theorem d_R_digest_134 : decode I_R_digest.2.1 134 = .ok (.ldc2_w 302, 3) := by decide +kernel
theorem d_R_digest_137 : decode I_R_digest.2.1 137 = .ok (.lload_n 1, 1) := by decide +kernel
theorem d_R_digest_138 : decode I_R_digest.2.1 138 = .ok (.lmul, 1) := by decide +kernel
theorem d_R_digest_139 : decode I_R_digest.2.1 139 = .ok (.aload_n 0, 1) := by decide +kernel
theorem d_R_digest_140 : decode I_R_digest.2.1 140 = .ok (.invokevirtual 213, 3) := by decide +kernel
theorem d_R_digest_143 : decode I_R_digest.2.1 143 = .ok (.i2l, 1) := by decide +kernel
theorem d_R_digest_144 : decode I_R_digest.2.1 144 = .ok (.ladd, 1) := by decide +kernel
theorem d_R_digest_145 : decode I_R_digest.2.1 145 = .ok (.lstore_n 1, 1) := by decide +kernel
theorem d_R_digest_146 : decode I_R_digest.2.1 146 = .ok (.ldc2_w 302, 3) := by decide +kernel
theorem d_R_digest_149 : decode I_R_digest.2.1 149 = .ok (.lload_n 1, 1) := by decide +kernel
theorem d_R_digest_150 : decode I_R_digest.2.1 150 = .ok (.lmul, 1) := by decide +kernel
theorem d_R_digest_151 : decode I_R_digest.2.1 151 = .ok (.aload_n 0, 1) := by decide +kernel
theorem d_R_digest_152 : decode I_R_digest.2.1 152 = .ok (.iconst 0, 1) := by decide +kernel
theorem d_R_digest_153 : decode I_R_digest.2.1 153 = .ok (.iconst 1, 1) := by decide +kernel
theorem d_R_digest_154 : decode I_R_digest.2.1 154 = .ok (.iconst 3, 1) := by decide +kernel
theorem d_R_digest_155 : decode I_R_digest.2.1 155 = .ok (.iconst 0, 1) := by decide +kernel
theorem d_R_digest_156 : decode I_R_digest.2.1 156 = .ok (.invokevirtual 316, 3) := by decide +kernel
theorem d_R_digest_159 : decode I_R_digest.2.1 159 = .ok (.i2l, 1) := by decide +kernel
theorem d_R_digest_160 : decode I_R_digest.2.1 160 = .ok (.ladd, 1) := by decide +kernel
theorem d_R_digest_161 : decode I_R_digest.2.1 161 = .ok (.lstore_n 1, 1) := by decide +kernel
theorem d_R_digest_162 : decode I_R_digest.2.1 162 = .ok (.ldc2_w 302, 3) := by decide +kernel
theorem d_R_digest_165 : decode I_R_digest.2.1 165 = .ok (.lload_n 1, 1) := by decide +kernel
theorem d_R_digest_166 : decode I_R_digest.2.1 166 = .ok (.lmul, 1) := by decide +kernel
theorem d_R_digest_167 : decode I_R_digest.2.1 167 = .ok (.aload_n 0, 1) := by decide +kernel
theorem d_R_digest_168 : decode I_R_digest.2.1 168 = .ok (.iconst 0, 1) := by decide +kernel
theorem d_R_digest_169 : decode I_R_digest.2.1 169 = .ok (.iconst 1, 1) := by decide +kernel
theorem d_R_digest_170 : decode I_R_digest.2.1 170 = .ok (.iconst 3, 1) := by decide +kernel
theorem d_R_digest_171 : decode I_R_digest.2.1 171 = .ok (.iconst 1, 1) := by decide +kernel
theorem d_R_digest_172 : decode I_R_digest.2.1 172 = .ok (.invokevirtual 316, 3) := by decide +kernel
theorem d_R_digest_175 : decode I_R_digest.2.1 175 = .ok (.i2l, 1) := by decide +kernel
theorem d_R_digest_176 : decode I_R_digest.2.1 176 = .ok (.ladd, 1) := by decide +kernel
theorem d_R_digest_177 : decode I_R_digest.2.1 177 = .ok (.lstore_n 1, 1) := by decide +kernel
theorem d_R_digest_178 : decode I_R_digest.2.1 178 = .ok (.aload_n 0, 1) := by decide +kernel
theorem d_R_digest_179 : decode I_R_digest.2.1 179 = .ok (.invokevirtual 260, 3) := by decide +kernel
theorem d_R_digest_182 : decode I_R_digest.2.1 182 = .ok (.ldc2_w 302, 3) := by decide +kernel
theorem d_R_digest_185 : decode I_R_digest.2.1 185 = .ok (.lload_n 1, 1) := by decide +kernel
theorem d_R_digest_186 : decode I_R_digest.2.1 186 = .ok (.lmul, 1) := by decide +kernel
theorem d_R_digest_187 : decode I_R_digest.2.1 187 = .ok (.aload_n 0, 1) := by decide +kernel
theorem d_R_digest_188 : decode I_R_digest.2.1 188 = .ok (.getfield 243, 3) := by decide +kernel
theorem d_R_digest_191 : decode I_R_digest.2.1 191 = .ok (.i2l, 1) := by decide +kernel
theorem d_R_digest_192 : decode I_R_digest.2.1 192 = .ok (.ladd, 1) := by decide +kernel
theorem d_R_digest_193 : decode I_R_digest.2.1 193 = .ok (.lstore_n 1, 1) := by decide +kernel
theorem d_R_digest_194 : decode I_R_digest.2.1 194 = .ok (.ldc2_w 302, 3) := by decide +kernel
theorem d_R_digest_197 : decode I_R_digest.2.1 197 = .ok (.lload_n 1, 1) := by decide +kernel
theorem d_R_digest_198 : decode I_R_digest.2.1 198 = .ok (.lmul, 1) := by decide +kernel
theorem d_R_digest_199 : decode I_R_digest.2.1 199 = .ok (.aload_n 0, 1) := by decide +kernel
theorem d_R_digest_200 : decode I_R_digest.2.1 200 = .ok (.getfield 246, 3) := by decide +kernel
theorem d_R_digest_203 : decode I_R_digest.2.1 203 = .ok (.i2l, 1) := by decide +kernel
theorem d_R_digest_204 : decode I_R_digest.2.1 204 = .ok (.ladd, 1) := by decide +kernel
theorem d_R_digest_205 : decode I_R_digest.2.1 205 = .ok (.lstore_n 1, 1) := by decide +kernel
theorem d_R_digest_206 : decode I_R_digest.2.1 206 = .ok (.ldc2_w 302, 3) := by decide +kernel
theorem d_R_digest_209 : decode I_R_digest.2.1 209 = .ok (.lload_n 1, 1) := by decide +kernel
theorem d_R_digest_210 : decode I_R_digest.2.1 210 = .ok (.lmul, 1) := by decide +kernel
theorem d_R_digest_211 : decode I_R_digest.2.1 211 = .ok (.aload_n 0, 1) := by decide +kernel
theorem d_R_digest_212 : decode I_R_digest.2.1 212 = .ok (.iconst 3, 1) := by decide +kernel
theorem d_R_digest_213 : decode I_R_digest.2.1 213 = .ok (.iconst 0, 1) := by decide +kernel
theorem d_R_digest_214 : decode I_R_digest.2.1 214 = .ok (.invokevirtual 319, 3) := by decide +kernel
theorem d_R_digest_217 : decode I_R_digest.2.1 217 = .ok (.i2l, 1) := by decide +kernel
theorem d_R_digest_218 : decode I_R_digest.2.1 218 = .ok (.ladd, 1) := by decide +kernel
theorem d_R_digest_219 : decode I_R_digest.2.1 219 = .ok (.lstore_n 1, 1) := by decide +kernel
theorem d_R_digest_220 : decode I_R_digest.2.1 220 = .ok (.ldc2_w 302, 3) := by decide +kernel
theorem d_R_digest_223 : decode I_R_digest.2.1 223 = .ok (.lload_n 1, 1) := by decide +kernel
theorem d_R_digest_224 : decode I_R_digest.2.1 224 = .ok (.lmul, 1) := by decide +kernel
theorem d_R_digest_225 : decode I_R_digest.2.1 225 = .ok (.aload_n 0, 1) := by decide +kernel
theorem d_R_digest_226 : decode I_R_digest.2.1 226 = .ok (.invokevirtual 269, 3) := by decide +kernel
theorem d_R_digest_229 : decode I_R_digest.2.1 229 = .ok (.i2l, 1) := by decide +kernel
theorem d_R_digest_230 : decode I_R_digest.2.1 230 = .ok (.ladd, 1) := by decide +kernel
theorem d_R_digest_231 : decode I_R_digest.2.1 231 = .ok (.lstore_n 1, 1) := by decide +kernel
theorem d_R_digest_232 : decode I_R_digest.2.1 232 = .ok (.ldc2_w 302, 3) := by decide +kernel
theorem d_R_digest_235 : decode I_R_digest.2.1 235 = .ok (.lload_n 1, 1) := by decide +kernel
theorem d_R_digest_236 : decode I_R_digest.2.1 236 = .ok (.lmul, 1) := by decide +kernel
theorem d_R_digest_237 : decode I_R_digest.2.1 237 = .ok (.aload_n 0, 1) := by decide +kernel
theorem d_R_digest_238 : decode I_R_digest.2.1 238 = .ok (.iconst 4, 1) := by decide +kernel
theorem d_R_digest_239 : decode I_R_digest.2.1 239 = .ok (.iconst 0, 1) := by decide +kernel
theorem d_R_digest_240 : decode I_R_digest.2.1 240 = .ok (.iconst 0, 1) := by decide +kernel
theorem d_R_digest_241 : decode I_R_digest.2.1 241 = .ok (.iconst 4, 1) := by decide +kernel
theorem d_R_digest_242 : decode I_R_digest.2.1 242 = .ok (.invokevirtual 322, 3) := by decide +kernel
theorem d_R_digest_245 : decode I_R_digest.2.1 245 = .ok (.i2l, 1) := by decide +kernel
theorem d_R_digest_246 : decode I_R_digest.2.1 246 = .ok (.ladd, 1) := by decide +kernel
theorem d_R_digest_247 : decode I_R_digest.2.1 247 = .ok (.lstore_n 1, 1) := by decide +kernel
theorem d_R_digest_248 : decode I_R_digest.2.1 248 = .ok (.ldc2_w 302, 3) := by decide +kernel
theorem d_R_digest_251 : decode I_R_digest.2.1 251 = .ok (.lload_n 1, 1) := by decide +kernel
theorem d_R_digest_252 : decode I_R_digest.2.1 252 = .ok (.lmul, 1) := by decide +kernel
theorem d_R_digest_253 : decode I_R_digest.2.1 253 = .ok (.aload_n 0, 1) := by decide +kernel
theorem d_R_digest_254 : decode I_R_digest.2.1 254 = .ok (.bipush 7, 2) := by decide +kernel
theorem d_R_digest_256 : decode I_R_digest.2.1 256 = .ok (.bipush 9, 2) := by decide +kernel
theorem d_R_digest_258 : decode I_R_digest.2.1 258 = .ok (.iconst (-1), 1) := by decide +kernel
theorem d_R_digest_259 : decode I_R_digest.2.1 259 = .ok (.invokevirtual 286, 3) := by decide +kernel
theorem d_R_digest_262 : decode I_R_digest.2.1 262 = .ok (.i2l, 1) := by decide +kernel
theorem d_R_digest_263 : decode I_R_digest.2.1 263 = .ok (.ladd, 1) := by decide +kernel
theorem d_R_digest_264 : decode I_R_digest.2.1 264 = .ok (.lreturn, 1) := by decide +kernel
