/-! DECODE ROWS, by program out of the listing -/
theorem d_J_init_0 : decode I_J_init.2.1 0 = .ok (.aload_n 0, 1) := by decide +kernel
theorem d_J_init_1 : decode I_J_init.2.1 1 = .ok (.invokespecial 3, 3) := by decide +kernel
theorem d_J_init_4 : decode I_J_init.2.1 4 = .ok (.aload_n 0, 1) := by decide +kernel
theorem d_J_init_5 : decode I_J_init.2.1 5 = .ok (.new 9, 3) := by decide +kernel
theorem d_J_init_8 : decode I_J_init.2.1 8 = .ok (.dup, 1) := by decide +kernel
theorem d_J_init_9 : decode I_J_init.2.1 9 = .ok (.invokespecial 11, 3) := by decide +kernel
theorem d_J_init_12 : decode I_J_init.2.1 12 = .ok (.putfield 12, 3) := by decide +kernel
theorem d_J_init_15 : decode I_J_init.2.1 15 = .ok (.aload_n 0, 1) := by decide +kernel
theorem d_J_init_16 : decode I_J_init.2.1 16 = .ok (.new 16, 3) := by decide +kernel
theorem d_J_init_19 : decode I_J_init.2.1 19 = .ok (.dup, 1) := by decide +kernel
theorem d_J_init_20 : decode I_J_init.2.1 20 = .ok (.invokespecial 18, 3) := by decide +kernel
theorem d_J_init_23 : decode I_J_init.2.1 23 = .ok (.putfield 19, 3) := by decide +kernel
theorem d_J_init_26 : decode I_J_init.2.1 26 = .ok (.aload_n 0, 1) := by decide +kernel
theorem d_J_init_27 : decode I_J_init.2.1 27 = .ok (.iconst 5, 1) := by decide +kernel
theorem d_J_init_28 : decode I_J_init.2.1 28 = .ok (.newarray .int, 2) := by decide +kernel
theorem d_J_init_30 : decode I_J_init.2.1 30 = .ok (.dup, 1) := by decide +kernel
theorem d_J_init_31 : decode I_J_init.2.1 31 = .ok (.iconst 0, 1) := by decide +kernel
theorem d_J_init_32 : decode I_J_init.2.1 32 = .ok (.iconst 1, 1) := by decide +kernel
theorem d_J_init_33 : decode I_J_init.2.1 33 = .ok (.iastore, 1) := by decide +kernel
theorem d_J_init_34 : decode I_J_init.2.1 34 = .ok (.dup, 1) := by decide +kernel
theorem d_J_init_35 : decode I_J_init.2.1 35 = .ok (.iconst 1, 1) := by decide +kernel
theorem d_J_init_36 : decode I_J_init.2.1 36 = .ok (.iconst 3, 1) := by decide +kernel
theorem d_J_init_37 : decode I_J_init.2.1 37 = .ok (.iastore, 1) := by decide +kernel
theorem d_J_init_38 : decode I_J_init.2.1 38 = .ok (.dup, 1) := by decide +kernel
theorem d_J_init_39 : decode I_J_init.2.1 39 = .ok (.iconst 2, 1) := by decide +kernel
theorem d_J_init_40 : decode I_J_init.2.1 40 = .ok (.iconst 0, 1) := by decide +kernel
theorem d_J_init_41 : decode I_J_init.2.1 41 = .ok (.iastore, 1) := by decide +kernel
theorem d_J_init_42 : decode I_J_init.2.1 42 = .ok (.dup, 1) := by decide +kernel
theorem d_J_init_43 : decode I_J_init.2.1 43 = .ok (.iconst 3, 1) := by decide +kernel
theorem d_J_init_44 : decode I_J_init.2.1 44 = .ok (.iconst 0, 1) := by decide +kernel
theorem d_J_init_45 : decode I_J_init.2.1 45 = .ok (.iastore, 1) := by decide +kernel
theorem d_J_init_46 : decode I_J_init.2.1 46 = .ok (.dup, 1) := by decide +kernel
theorem d_J_init_47 : decode I_J_init.2.1 47 = .ok (.iconst 4, 1) := by decide +kernel
theorem d_J_init_48 : decode I_J_init.2.1 48 = .ok (.iconst 2, 1) := by decide +kernel
theorem d_J_init_49 : decode I_J_init.2.1 49 = .ok (.iastore, 1) := by decide +kernel
theorem d_J_init_50 : decode I_J_init.2.1 50 = .ok (.putfield 23, 3) := by decide +kernel
theorem d_J_init_53 : decode I_J_init.2.1 53 = .ok (.aload_n 0, 1) := by decide +kernel
theorem d_J_init_54 : decode I_J_init.2.1 54 = .ok (.iconst 2, 1) := by decide +kernel
theorem d_J_init_55 : decode I_J_init.2.1 55 = .ok (.anewarray 27, 3) := by decide +kernel
theorem d_J_init_58 : decode I_J_init.2.1 58 = .ok (.dup, 1) := by decide +kernel
theorem d_J_init_59 : decode I_J_init.2.1 59 = .ok (.iconst 0, 1) := by decide +kernel
theorem d_J_init_60 : decode I_J_init.2.1 60 = .ok (.iconst 3, 1) := by decide +kernel
theorem d_J_init_61 : decode I_J_init.2.1 61 = .ok (.newarray .int, 2) := by decide +kernel
theorem d_J_init_63 : decode I_J_init.2.1 63 = .ok (.dup, 1) := by decide +kernel
theorem d_J_init_64 : decode I_J_init.2.1 64 = .ok (.iconst 0, 1) := by decide +kernel
theorem d_J_init_65 : decode I_J_init.2.1 65 = .ok (.iconst 1, 1) := by decide +kernel
theorem d_J_init_66 : decode I_J_init.2.1 66 = .ok (.iastore, 1) := by decide +kernel
theorem d_J_init_67 : decode I_J_init.2.1 67 = .ok (.dup, 1) := by decide +kernel
theorem d_J_init_68 : decode I_J_init.2.1 68 = .ok (.iconst 1, 1) := by decide +kernel
theorem d_J_init_69 : decode I_J_init.2.1 69 = .ok (.iconst 1, 1) := by decide +kernel
theorem d_J_init_70 : decode I_J_init.2.1 70 = .ok (.iastore, 1) := by decide +kernel
theorem d_J_init_71 : decode I_J_init.2.1 71 = .ok (.dup, 1) := by decide +kernel
theorem d_J_init_72 : decode I_J_init.2.1 72 = .ok (.iconst 2, 1) := by decide +kernel
theorem d_J_init_73 : decode I_J_init.2.1 73 = .ok (.iconst 1, 1) := by decide +kernel
theorem d_J_init_74 : decode I_J_init.2.1 74 = .ok (.iastore, 1) := by decide +kernel
theorem d_J_init_75 : decode I_J_init.2.1 75 = .ok (.aastore, 1) := by decide +kernel
theorem d_J_init_76 : decode I_J_init.2.1 76 = .ok (.dup, 1) := by decide +kernel
theorem d_J_init_77 : decode I_J_init.2.1 77 = .ok (.iconst 1, 1) := by decide +kernel
theorem d_J_init_78 : decode I_J_init.2.1 78 = .ok (.iconst 3, 1) := by decide +kernel
theorem d_J_init_79 : decode I_J_init.2.1 79 = .ok (.newarray .int, 2) := by decide +kernel
theorem d_J_init_81 : decode I_J_init.2.1 81 = .ok (.dup, 1) := by decide +kernel
theorem d_J_init_82 : decode I_J_init.2.1 82 = .ok (.iconst 0, 1) := by decide +kernel
theorem d_J_init_83 : decode I_J_init.2.1 83 = .ok (.iconst 1, 1) := by decide +kernel
theorem d_J_init_84 : decode I_J_init.2.1 84 = .ok (.iastore, 1) := by decide +kernel
theorem d_J_init_85 : decode I_J_init.2.1 85 = .ok (.dup, 1) := by decide +kernel
theorem d_J_init_86 : decode I_J_init.2.1 86 = .ok (.iconst 1, 1) := by decide +kernel
theorem d_J_init_87 : decode I_J_init.2.1 87 = .ok (.iconst 1, 1) := by decide +kernel
theorem d_J_init_88 : decode I_J_init.2.1 88 = .ok (.iastore, 1) := by decide +kernel
theorem d_J_init_89 : decode I_J_init.2.1 89 = .ok (.dup, 1) := by decide +kernel
theorem d_J_init_90 : decode I_J_init.2.1 90 = .ok (.iconst 2, 1) := by decide +kernel
theorem d_J_init_91 : decode I_J_init.2.1 91 = .ok (.iconst 1, 1) := by decide +kernel
theorem d_J_init_92 : decode I_J_init.2.1 92 = .ok (.iastore, 1) := by decide +kernel
theorem d_J_init_93 : decode I_J_init.2.1 93 = .ok (.aastore, 1) := by decide +kernel
theorem d_J_init_94 : decode I_J_init.2.1 94 = .ok (.putfield 28, 3) := by decide +kernel
theorem d_J_init_97 : decode I_J_init.2.1 97 = .ok (.aload_n 0, 1) := by decide +kernel
theorem d_J_init_98 : decode I_J_init.2.1 98 = .ok (.iconst 3, 1) := by decide +kernel
theorem d_J_init_99 : decode I_J_init.2.1 99 = .ok (.newarray .int, 2) := by decide +kernel
theorem d_J_init_101 : decode I_J_init.2.1 101 = .ok (.putfield 32, 3) := by decide +kernel
theorem d_J_init_104 : decode I_J_init.2.1 104 = .ok (.aload_n 0, 1) := by decide +kernel
theorem d_J_init_105 : decode I_J_init.2.1 105 = .ok (.new 35, 3) := by decide +kernel
theorem d_J_init_108 : decode I_J_init.2.1 108 = .ok (.dup, 1) := by decide +kernel
theorem d_J_init_109 : decode I_J_init.2.1 109 = .ok (.aload_n 0, 1) := by decide +kernel
theorem d_J_init_110 : decode I_J_init.2.1 110 = .ok (.getfield 12, 3) := by decide +kernel
theorem d_J_init_113 : decode I_J_init.2.1 113 = .ok (.aload_n 0, 1) := by decide +kernel
theorem d_J_init_114 : decode I_J_init.2.1 114 = .ok (.getfield 19, 3) := by decide +kernel
theorem d_J_init_117 : decode I_J_init.2.1 117 = .ok (.aload_n 0, 1) := by decide +kernel
theorem d_J_init_118 : decode I_J_init.2.1 118 = .ok (.getfield 23, 3) := by decide +kernel
theorem d_J_init_121 : decode I_J_init.2.1 121 = .ok (.invokespecial 37, 3) := by decide +kernel
theorem d_J_init_124 : decode I_J_init.2.1 124 = .ok (.putfield 40, 3) := by decide +kernel
theorem d_J_init_127 : decode I_J_init.2.1 127 = .ok (.aload_n 0, 1) := by decide +kernel
theorem d_J_init_128 : decode I_J_init.2.1 128 = .ok (.new 44, 3) := by decide +kernel
theorem d_J_init_131 : decode I_J_init.2.1 131 = .ok (.dup, 1) := by decide +kernel
theorem d_J_init_132 : decode I_J_init.2.1 132 = .ok (.invokespecial 46, 3) := by decide +kernel
theorem d_J_init_135 : decode I_J_init.2.1 135 = .ok (.putfield 47, 3) := by decide +kernel
theorem d_J_init_138 : decode I_J_init.2.1 138 = .ok (.aload_n 0, 1) := by decide +kernel
theorem d_J_init_139 : decode I_J_init.2.1 139 = .ok (.new 51, 3) := by decide +kernel
theorem d_J_init_142 : decode I_J_init.2.1 142 = .ok (.dup, 1) := by decide +kernel
theorem d_J_init_143 : decode I_J_init.2.1 143 = .ok (.aload_n 0, 1) := by decide +kernel
theorem d_J_init_144 : decode I_J_init.2.1 144 = .ok (.getfield 40, 3) := by decide +kernel
theorem d_J_init_147 : decode I_J_init.2.1 147 = .ok (.invokespecial 53, 3) := by decide +kernel
theorem d_J_init_150 : decode I_J_init.2.1 150 = .ok (.putfield 56, 3) := by decide +kernel
theorem d_J_init_153 : decode I_J_init.2.1 153 = .ok (.aload_n 0, 1) := by decide +kernel
theorem d_J_init_154 : decode I_J_init.2.1 154 = .ok (.new 60, 3) := by decide +kernel
theorem d_J_init_157 : decode I_J_init.2.1 157 = .ok (.dup, 1) := by decide +kernel
theorem d_J_init_158 : decode I_J_init.2.1 158 = .ok (.aload_n 0, 1) := by decide +kernel
theorem d_J_init_159 : decode I_J_init.2.1 159 = .ok (.getfield 40, 3) := by decide +kernel
theorem d_J_init_162 : decode I_J_init.2.1 162 = .ok (.invokespecial 62, 3) := by decide +kernel
theorem d_J_init_165 : decode I_J_init.2.1 165 = .ok (.putfield 63, 3) := by decide +kernel
theorem d_J_init_168 : decode I_J_init.2.1 168 = .ok (.aload_n 0, 1) := by decide +kernel
theorem d_J_init_169 : decode I_J_init.2.1 169 = .ok (.new 67, 3) := by decide +kernel
theorem d_J_init_172 : decode I_J_init.2.1 172 = .ok (.dup, 1) := by decide +kernel
theorem d_J_init_173 : decode I_J_init.2.1 173 = .ok (.aload_n 0, 1) := by decide +kernel
theorem d_J_init_174 : decode I_J_init.2.1 174 = .ok (.getfield 40, 3) := by decide +kernel
theorem d_J_init_177 : decode I_J_init.2.1 177 = .ok (.invokespecial 69, 3) := by decide +kernel
theorem d_J_init_180 : decode I_J_init.2.1 180 = .ok (.putfield 70, 3) := by decide +kernel
theorem d_J_init_183 : decode I_J_init.2.1 183 = .ok (.aload_n 0, 1) := by decide +kernel
theorem d_J_init_184 : decode I_J_init.2.1 184 = .ok (.new 74, 3) := by decide +kernel
theorem d_J_init_187 : decode I_J_init.2.1 187 = .ok (.dup, 1) := by decide +kernel
theorem d_J_init_188 : decode I_J_init.2.1 188 = .ok (.invokespecial 76, 3) := by decide +kernel
theorem d_J_init_191 : decode I_J_init.2.1 191 = .ok (.putfield 77, 3) := by decide +kernel
theorem d_J_init_194 : decode I_J_init.2.1 194 = .ok (.aload_n 0, 1) := by decide +kernel
theorem d_J_init_195 : decode I_J_init.2.1 195 = .ok (.iconst 2, 1) := by decide +kernel
theorem d_J_init_196 : decode I_J_init.2.1 196 = .ok (.bipush 30, 2) := by decide +kernel
theorem d_J_init_198 : decode I_J_init.2.1 198 = .ok (.multianewarray 81 2, 4) := by decide +kernel
theorem d_J_init_202 : decode I_J_init.2.1 202 = .ok (.putfield 82, 3) := by decide +kernel
theorem d_J_init_205 : decode I_J_init.2.1 205 = .ok (.aload_n 0, 1) := by decide +kernel
theorem d_J_init_206 : decode I_J_init.2.1 206 = .ok (.bipush 21, 2) := by decide +kernel
theorem d_J_init_208 : decode I_J_init.2.1 208 = .ok (.newarray .int, 2) := by decide +kernel
theorem d_J_init_210 : decode I_J_init.2.1 210 = .ok (.putfield 85, 3) := by decide +kernel
theorem d_J_init_213 : decode I_J_init.2.1 213 = .ok (.return_, 1) := by decide +kernel
theorem d_J_type_0 : decode I_J_type.2.1 0 = .ok (.iload_n 1, 1) := by decide +kernel
theorem d_J_type_1 : decode I_J_type.2.1 1 = .ok (.ifCond .lt 10, 3) := by decide +kernel
theorem d_J_type_4 : decode I_J_type.2.1 4 = .ok (.iload_n 1, 1) := by decide +kernel
theorem d_J_type_5 : decode I_J_type.2.1 5 = .ok (.sipush 255, 3) := by decide +kernel
theorem d_J_type_8 : decode I_J_type.2.1 8 = .ok (.if_icmp .le 6, 3) := by decide +kernel
theorem d_J_type_11 : decode I_J_type.2.1 11 = .ok (.bipush (-2), 2) := by decide +kernel
theorem d_J_type_13 : decode I_J_type.2.1 13 = .ok (.ireturn, 1) := by decide +kernel
theorem d_J_type_14 : decode I_J_type.2.1 14 = .ok (.aload_n 0, 1) := by decide +kernel
theorem d_J_type_15 : decode I_J_type.2.1 15 = .ok (.getfield 12, 3) := by decide +kernel
theorem d_J_type_18 : decode I_J_type.2.1 18 = .ok (.getfield 88, 3) := by decide +kernel
theorem d_J_type_21 : decode I_J_type.2.1 21 = .ok (.bipush 23, 2) := by decide +kernel
theorem d_J_type_23 : decode I_J_type.2.1 23 = .ok (.if_icmp .lt 6, 3) := by decide +kernel
theorem d_J_type_26 : decode I_J_type.2.1 26 = .ok (.bipush (-4), 2) := by decide +kernel
theorem d_J_type_28 : decode I_J_type.2.1 28 = .ok (.ireturn, 1) := by decide +kernel
theorem d_J_type_29 : decode I_J_type.2.1 29 = .ok (.aload_n 0, 1) := by decide +kernel
theorem d_J_type_30 : decode I_J_type.2.1 30 = .ok (.getfield 12, 3) := by decide +kernel
theorem d_J_type_33 : decode I_J_type.2.1 33 = .ok (.getfield 92, 3) := by decide +kernel
theorem d_J_type_36 : decode I_J_type.2.1 36 = .ok (.aload_n 0, 1) := by decide +kernel
theorem d_J_type_37 : decode I_J_type.2.1 37 = .ok (.getfield 12, 3) := by decide +kernel
theorem d_J_type_40 : decode I_J_type.2.1 40 = .ok (.getfield 88, 3) := by decide +kernel
theorem d_J_type_43 : decode I_J_type.2.1 43 = .ok (.iload_n 1, 1) := by decide +kernel
theorem d_J_type_44 : decode I_J_type.2.1 44 = .ok (.iastore, 1) := by decide +kernel
theorem d_J_type_45 : decode I_J_type.2.1 45 = .ok (.aload_n 0, 1) := by decide +kernel
theorem d_J_type_46 : decode I_J_type.2.1 46 = .ok (.getfield 12, 3) := by decide +kernel
theorem d_J_type_49 : decode I_J_type.2.1 49 = .ok (.dup, 1) := by decide +kernel
theorem d_J_type_50 : decode I_J_type.2.1 50 = .ok (.getfield 88, 3) := by decide +kernel
theorem d_J_type_53 : decode I_J_type.2.1 53 = .ok (.iconst 1, 1) := by decide +kernel
theorem d_J_type_54 : decode I_J_type.2.1 54 = .ok (.iadd, 1) := by decide +kernel
theorem d_J_type_55 : decode I_J_type.2.1 55 = .ok (.putfield 88, 3) := by decide +kernel
theorem d_J_type_58 : decode I_J_type.2.1 58 = .ok (.aload_n 0, 1) := by decide +kernel
theorem d_J_type_59 : decode I_J_type.2.1 59 = .ok (.getfield 12, 3) := by decide +kernel
theorem d_J_type_62 : decode I_J_type.2.1 62 = .ok (.invokevirtual 95, 3) := by decide +kernel
theorem d_J_type_65 : decode I_J_type.2.1 65 = .ok (.aload_n 0, 1) := by decide +kernel
theorem d_J_type_66 : decode I_J_type.2.1 66 = .ok (.getfield 12, 3) := by decide +kernel
theorem d_J_type_69 : decode I_J_type.2.1 69 = .ok (.getfield 88, 3) := by decide +kernel
theorem d_J_type_72 : decode I_J_type.2.1 72 = .ok (.ireturn, 1) := by decide +kernel
theorem d_J_wipe_0 : decode I_J_wipe.2.1 0 = .ok (.aload_n 0, 1) := by decide +kernel
theorem d_J_wipe_1 : decode I_J_wipe.2.1 1 = .ok (.getfield 12, 3) := by decide +kernel
theorem d_J_wipe_4 : decode I_J_wipe.2.1 4 = .ok (.getfield 88, 3) := by decide +kernel
theorem d_J_wipe_7 : decode I_J_wipe.2.1 7 = .ok (.istore_n 1, 1) := by decide +kernel
theorem d_J_wipe_8 : decode I_J_wipe.2.1 8 = .ok (.aload_n 0, 1) := by decide +kernel
theorem d_J_wipe_9 : decode I_J_wipe.2.1 9 = .ok (.getfield 12, 3) := by decide +kernel
theorem d_J_wipe_12 : decode I_J_wipe.2.1 12 = .ok (.iconst 0, 1) := by decide +kernel
theorem d_J_wipe_13 : decode I_J_wipe.2.1 13 = .ok (.putfield 88, 3) := by decide +kernel
theorem d_J_wipe_16 : decode I_J_wipe.2.1 16 = .ok (.aload_n 0, 1) := by decide +kernel
theorem d_J_wipe_17 : decode I_J_wipe.2.1 17 = .ok (.getfield 12, 3) := by decide +kernel
theorem d_J_wipe_20 : decode I_J_wipe.2.1 20 = .ok (.invokevirtual 95, 3) := by decide +kernel
theorem d_J_wipe_23 : decode I_J_wipe.2.1 23 = .ok (.iload_n 1, 1) := by decide +kernel
theorem d_J_wipe_24 : decode I_J_wipe.2.1 24 = .ok (.ireturn, 1) := by decide +kernel
theorem d_J_undo_0 : decode I_J_undo.2.1 0 = .ok (.aload_n 0, 1) := by decide +kernel
theorem d_J_undo_1 : decode I_J_undo.2.1 1 = .ok (.getfield 12, 3) := by decide +kernel
theorem d_J_undo_4 : decode I_J_undo.2.1 4 = .ok (.getfield 88, 3) := by decide +kernel
theorem d_J_undo_7 : decode I_J_undo.2.1 7 = .ok (.ifCond .gt 6, 3) := by decide +kernel
theorem d_J_undo_10 : decode I_J_undo.2.1 10 = .ok (.bipush (-3), 2) := by decide +kernel
theorem d_J_undo_12 : decode I_J_undo.2.1 12 = .ok (.ireturn, 1) := by decide +kernel
theorem d_J_undo_13 : decode I_J_undo.2.1 13 = .ok (.aload_n 0, 1) := by decide +kernel
theorem d_J_undo_14 : decode I_J_undo.2.1 14 = .ok (.getfield 12, 3) := by decide +kernel
theorem d_J_undo_17 : decode I_J_undo.2.1 17 = .ok (.dup, 1) := by decide +kernel
theorem d_J_undo_18 : decode I_J_undo.2.1 18 = .ok (.getfield 88, 3) := by decide +kernel
theorem d_J_undo_21 : decode I_J_undo.2.1 21 = .ok (.iconst 1, 1) := by decide +kernel
theorem d_J_undo_22 : decode I_J_undo.2.1 22 = .ok (.isub, 1) := by decide +kernel
theorem d_J_undo_23 : decode I_J_undo.2.1 23 = .ok (.putfield 88, 3) := by decide +kernel
theorem d_J_undo_26 : decode I_J_undo.2.1 26 = .ok (.aload_n 0, 1) := by decide +kernel
theorem d_J_undo_27 : decode I_J_undo.2.1 27 = .ok (.getfield 12, 3) := by decide +kernel
theorem d_J_undo_30 : decode I_J_undo.2.1 30 = .ok (.invokevirtual 95, 3) := by decide +kernel
theorem d_J_undo_33 : decode I_J_undo.2.1 33 = .ok (.aload_n 0, 1) := by decide +kernel
theorem d_J_undo_34 : decode I_J_undo.2.1 34 = .ok (.getfield 12, 3) := by decide +kernel
theorem d_J_undo_37 : decode I_J_undo.2.1 37 = .ok (.getfield 88, 3) := by decide +kernel
theorem d_J_undo_40 : decode I_J_undo.2.1 40 = .ok (.ireturn, 1) := by decide +kernel
theorem d_J_fault_0 : decode I_J_fault.2.1 0 = .ok (.aload_n 0, 1) := by decide +kernel
theorem d_J_fault_1 : decode I_J_fault.2.1 1 = .ok (.getfield 12, 3) := by decide +kernel
theorem d_J_fault_4 : decode I_J_fault.2.1 4 = .ok (.getfield 98, 3) := by decide +kernel
theorem d_J_fault_7 : decode I_J_fault.2.1 7 = .ok (.ireturn, 1) := by decide +kernel
theorem d_J_good_0 : decode I_J_good.2.1 0 = .ok (.aload_n 0, 1) := by decide +kernel
theorem d_J_good_1 : decode I_J_good.2.1 1 = .ok (.getfield 12, 3) := by decide +kernel
theorem d_J_good_4 : decode I_J_good.2.1 4 = .ok (.iload_n 1, 1) := by decide +kernel
theorem d_J_good_5 : decode I_J_good.2.1 5 = .ok (.invokevirtual 101, 3) := by decide +kernel
theorem d_J_good_8 : decode I_J_good.2.1 8 = .ok (.ifCond .eq 10, 3) := by decide +kernel
theorem d_J_good_11 : decode I_J_good.2.1 11 = .ok (.iload_n 2, 1) := by decide +kernel
theorem d_J_good_12 : decode I_J_good.2.1 12 = .ok (.invokestatic 105, 3) := by decide +kernel
theorem d_J_good_15 : decode I_J_good.2.1 15 = .ok (.ifCond .ne 6, 3) := by decide +kernel
theorem d_J_good_18 : decode I_J_good.2.1 18 = .ok (.bipush (-2), 2) := by decide +kernel
theorem d_J_good_20 : decode I_J_good.2.1 20 = .ok (.ireturn, 1) := by decide +kernel
theorem d_J_good_21 : decode I_J_good.2.1 21 = .ok (.aload_n 0, 1) := by decide +kernel
theorem d_J_good_22 : decode I_J_good.2.1 22 = .ok (.getfield 12, 3) := by decide +kernel
theorem d_J_good_25 : decode I_J_good.2.1 25 = .ok (.getfield 108, 3) := by decide +kernel
theorem d_J_good_28 : decode I_J_good.2.1 28 = .ok (.iload_n 1, 1) := by decide +kernel
theorem d_J_good_29 : decode I_J_good.2.1 29 = .ok (.iconst 3, 1) := by decide +kernel
theorem d_J_good_30 : decode I_J_good.2.1 30 = .ok (.imul, 1) := by decide +kernel
theorem d_J_good_31 : decode I_J_good.2.1 31 = .ok (.iload_n 2, 1) := by decide +kernel
theorem d_J_good_32 : decode I_J_good.2.1 32 = .ok (.iadd, 1) := by decide +kernel
theorem d_J_good_33 : decode I_J_good.2.1 33 = .ok (.iaload, 1) := by decide +kernel
theorem d_J_good_34 : decode I_J_good.2.1 34 = .ok (.ireturn, 1) := by decide +kernel
theorem d_J_taste_0 : decode I_J_taste.2.1 0 = .ok (.iload_n 1, 1) := by decide +kernel
theorem d_J_taste_1 : decode I_J_taste.2.1 1 = .ok (.invokestatic 111, 3) := by decide +kernel
theorem d_J_taste_4 : decode I_J_taste.2.1 4 = .ok (.ifCond .eq 20, 3) := by decide +kernel
theorem d_J_taste_7 : decode I_J_taste.2.1 7 = .ok (.iload_n 2, 1) := by decide +kernel
theorem d_J_taste_8 : decode I_J_taste.2.1 8 = .ok (.invokestatic 105, 3) := by decide +kernel
theorem d_J_taste_11 : decode I_J_taste.2.1 11 = .ok (.ifCond .eq 13, 3) := by decide +kernel
theorem d_J_taste_14 : decode I_J_taste.2.1 14 = .ok (.iload_n 3, 1) := by decide +kernel
theorem d_J_taste_15 : decode I_J_taste.2.1 15 = .ok (.ifCond .lt 9, 3) := by decide +kernel
theorem d_J_taste_18 : decode I_J_taste.2.1 18 = .ok (.iload_n 3, 1) := by decide +kernel
theorem d_J_taste_19 : decode I_J_taste.2.1 19 = .ok (.bipush 9, 2) := by decide +kernel
theorem d_J_taste_21 : decode I_J_taste.2.1 21 = .ok (.if_icmp .le 6, 3) := by decide +kernel
theorem d_J_taste_24 : decode I_J_taste.2.1 24 = .ok (.bipush (-2), 2) := by decide +kernel
theorem d_J_taste_26 : decode I_J_taste.2.1 26 = .ok (.ireturn, 1) := by decide +kernel
theorem d_J_taste_27 : decode I_J_taste.2.1 27 = .ok (.aload_n 0, 1) := by decide +kernel
theorem d_J_taste_28 : decode I_J_taste.2.1 28 = .ok (.getfield 28, 3) := by decide +kernel
theorem d_J_taste_31 : decode I_J_taste.2.1 31 = .ok (.iload_n 1, 1) := by decide +kernel
theorem d_J_taste_32 : decode I_J_taste.2.1 32 = .ok (.aaload, 1) := by decide +kernel
theorem d_J_taste_33 : decode I_J_taste.2.1 33 = .ok (.iload_n 2, 1) := by decide +kernel
theorem d_J_taste_34 : decode I_J_taste.2.1 34 = .ok (.iaload, 1) := by decide +kernel
theorem d_J_taste_35 : decode I_J_taste.2.1 35 = .ok (.istore 4, 2) := by decide +kernel
theorem d_J_taste_37 : decode I_J_taste.2.1 37 = .ok (.aload_n 0, 1) := by decide +kernel
theorem d_J_taste_38 : decode I_J_taste.2.1 38 = .ok (.getfield 28, 3) := by decide +kernel
theorem d_J_taste_41 : decode I_J_taste.2.1 41 = .ok (.iload_n 1, 1) := by decide +kernel
theorem d_J_taste_42 : decode I_J_taste.2.1 42 = .ok (.aaload, 1) := by decide +kernel
theorem d_J_taste_43 : decode I_J_taste.2.1 43 = .ok (.iload_n 2, 1) := by decide +kernel
theorem d_J_taste_44 : decode I_J_taste.2.1 44 = .ok (.iload_n 3, 1) := by decide +kernel
theorem d_J_taste_45 : decode I_J_taste.2.1 45 = .ok (.iastore, 1) := by decide +kernel
theorem d_J_taste_46 : decode I_J_taste.2.1 46 = .ok (.iload 4, 2) := by decide +kernel
theorem d_J_taste_48 : decode I_J_taste.2.1 48 = .ok (.ireturn, 1) := by decide +kernel
theorem d_J_set_0 : decode I_J_set.2.1 0 = .ok (.iload_n 1, 1) := by decide +kernel
theorem d_J_set_1 : decode I_J_set.2.1 1 = .ok (.ifCond .lt 21, 3) := by decide +kernel
theorem d_J_set_4 : decode I_J_set.2.1 4 = .ok (.iload_n 1, 1) := by decide +kernel
theorem d_J_set_5 : decode I_J_set.2.1 5 = .ok (.iconst 5, 1) := by decide +kernel
theorem d_J_set_6 : decode I_J_set.2.1 6 = .ok (.if_icmp .ge 16, 3) := by decide +kernel
theorem d_J_set_9 : decode I_J_set.2.1 9 = .ok (.iload_n 2, 1) := by decide +kernel
theorem d_J_set_10 : decode I_J_set.2.1 10 = .ok (.ifCond .lt 12, 3) := by decide +kernel
theorem d_J_set_13 : decode I_J_set.2.1 13 = .ok (.iload_n 2, 1) := by decide +kernel
theorem d_J_set_14 : decode I_J_set.2.1 14 = .ok (.getstatic 114, 3) := by decide +kernel
theorem d_J_set_17 : decode I_J_set.2.1 17 = .ok (.iload_n 1, 1) := by decide +kernel
theorem d_J_set_18 : decode I_J_set.2.1 18 = .ok (.iaload, 1) := by decide +kernel
theorem d_J_set_19 : decode I_J_set.2.1 19 = .ok (.if_icmp .le 6, 3) := by decide +kernel
theorem d_J_set_22 : decode I_J_set.2.1 22 = .ok (.bipush (-2), 2) := by decide +kernel
theorem d_J_set_24 : decode I_J_set.2.1 24 = .ok (.ireturn, 1) := by decide +kernel
theorem d_J_set_25 : decode I_J_set.2.1 25 = .ok (.aload_n 0, 1) := by decide +kernel
theorem d_J_set_26 : decode I_J_set.2.1 26 = .ok (.getfield 23, 3) := by decide +kernel
theorem d_J_set_29 : decode I_J_set.2.1 29 = .ok (.iload_n 1, 1) := by decide +kernel
theorem d_J_set_30 : decode I_J_set.2.1 30 = .ok (.iaload, 1) := by decide +kernel
theorem d_J_set_31 : decode I_J_set.2.1 31 = .ok (.istore_n 3, 1) := by decide +kernel
theorem d_J_set_32 : decode I_J_set.2.1 32 = .ok (.aload_n 0, 1) := by decide +kernel
theorem d_J_set_33 : decode I_J_set.2.1 33 = .ok (.getfield 23, 3) := by decide +kernel
theorem d_J_set_36 : decode I_J_set.2.1 36 = .ok (.iload_n 1, 1) := by decide +kernel
theorem d_J_set_37 : decode I_J_set.2.1 37 = .ok (.iload_n 2, 1) := by decide +kernel
theorem d_J_set_38 : decode I_J_set.2.1 38 = .ok (.iastore, 1) := by decide +kernel
theorem d_J_set_39 : decode I_J_set.2.1 39 = .ok (.iload_n 3, 1) := by decide +kernel
theorem d_J_set_40 : decode I_J_set.2.1 40 = .ok (.ireturn, 1) := by decide +kernel
theorem d_J_visit_0 : decode I_J_visit.2.1 0 = .ok (.iload_n 1, 1) := by decide +kernel
theorem d_J_visit_1 : decode I_J_visit.2.1 1 = .ok (.invokestatic 117, 3) := by decide +kernel
theorem d_J_visit_4 : decode I_J_visit.2.1 4 = .ok (.ifCond .eq 20, 3) := by decide +kernel
theorem d_J_visit_7 : decode I_J_visit.2.1 7 = .ok (.iload_n 2, 1) := by decide +kernel
theorem d_J_visit_8 : decode I_J_visit.2.1 8 = .ok (.ifCond .lt 16, 3) := by decide +kernel
theorem d_J_visit_11 : decode I_J_visit.2.1 11 = .ok (.iload_n 2, 1) := by decide +kernel
theorem d_J_visit_12 : decode I_J_visit.2.1 12 = .ok (.bipush 6, 2) := by decide +kernel
theorem d_J_visit_14 : decode I_J_visit.2.1 14 = .ok (.if_icmp .ge 10, 3) := by decide +kernel
theorem d_J_visit_17 : decode I_J_visit.2.1 17 = .ok (.iload_n 3, 1) := by decide +kernel
theorem d_J_visit_18 : decode I_J_visit.2.1 18 = .ok (.invokestatic 105, 3) := by decide +kernel
theorem d_J_visit_21 : decode I_J_visit.2.1 21 = .ok (.ifCond .ne 6, 3) := by decide +kernel
theorem d_J_visit_24 : decode I_J_visit.2.1 24 = .ok (.bipush (-2), 2) := by decide +kernel
theorem d_J_visit_26 : decode I_J_visit.2.1 26 = .ok (.ireturn, 1) := by decide +kernel
theorem d_J_visit_27 : decode I_J_visit.2.1 27 = .ok (.aload_n 0, 1) := by decide +kernel
theorem d_J_visit_28 : decode I_J_visit.2.1 28 = .ok (.getfield 19, 3) := by decide +kernel
theorem d_J_visit_31 : decode I_J_visit.2.1 31 = .ok (.getfield 120, 3) := by decide +kernel
theorem d_J_visit_34 : decode I_J_visit.2.1 34 = .ok (.bipush 24, 2) := by decide +kernel
theorem d_J_visit_36 : decode I_J_visit.2.1 36 = .ok (.if_icmp .lt 6, 3) := by decide +kernel
theorem d_J_visit_39 : decode I_J_visit.2.1 39 = .ok (.bipush (-4), 2) := by decide +kernel
theorem d_J_visit_41 : decode I_J_visit.2.1 41 = .ok (.ireturn, 1) := by decide +kernel
theorem d_J_visit_42 : decode I_J_visit.2.1 42 = .ok (.aload_n 0, 1) := by decide +kernel
theorem d_J_visit_43 : decode I_J_visit.2.1 43 = .ok (.getfield 19, 3) := by decide +kernel
theorem d_J_visit_46 : decode I_J_visit.2.1 46 = .ok (.iload_n 1, 1) := by decide +kernel
theorem d_J_visit_47 : decode I_J_visit.2.1 47 = .ok (.iload_n 2, 1) := by decide +kernel
theorem d_J_visit_48 : decode I_J_visit.2.1 48 = .ok (.iload_n 3, 1) := by decide +kernel
theorem d_J_visit_49 : decode I_J_visit.2.1 49 = .ok (.invokevirtual 123, 3) := by decide +kernel
theorem d_J_visit_52 : decode I_J_visit.2.1 52 = .ok (.aload_n 0, 1) := by decide +kernel
theorem d_J_visit_53 : decode I_J_visit.2.1 53 = .ok (.getfield 19, 3) := by decide +kernel
theorem d_J_visit_56 : decode I_J_visit.2.1 56 = .ok (.getfield 120, 3) := by decide +kernel
theorem d_J_visit_59 : decode I_J_visit.2.1 59 = .ok (.ireturn, 1) := by decide +kernel
theorem d_J_back_0 : decode I_J_back.2.1 0 = .ok (.aload_n 0, 1) := by decide +kernel
theorem d_J_back_1 : decode I_J_back.2.1 1 = .ok (.getfield 19, 3) := by decide +kernel
theorem d_J_back_4 : decode I_J_back.2.1 4 = .ok (.getfield 120, 3) := by decide +kernel
theorem d_J_back_7 : decode I_J_back.2.1 7 = .ok (.ifCond .gt 6, 3) := by decide +kernel
theorem d_J_back_10 : decode I_J_back.2.1 10 = .ok (.bipush (-3), 2) := by decide +kernel
theorem d_J_back_12 : decode I_J_back.2.1 12 = .ok (.ireturn, 1) := by decide +kernel
theorem d_J_back_13 : decode I_J_back.2.1 13 = .ok (.aload_n 0, 1) := by decide +kernel
theorem d_J_back_14 : decode I_J_back.2.1 14 = .ok (.getfield 19, 3) := by decide +kernel
theorem d_J_back_17 : decode I_J_back.2.1 17 = .ok (.invokevirtual 127, 3) := by decide +kernel
theorem d_J_back_20 : decode I_J_back.2.1 20 = .ok (.aload_n 0, 1) := by decide +kernel
theorem d_J_back_21 : decode I_J_back.2.1 21 = .ok (.getfield 19, 3) := by decide +kernel
theorem d_J_back_24 : decode I_J_back.2.1 24 = .ok (.getfield 120, 3) := by decide +kernel
theorem d_J_back_27 : decode I_J_back.2.1 27 = .ok (.ireturn, 1) := by decide +kernel
theorem d_J_read_0 : decode I_J_read.2.1 0 = .ok (.aload_n 0, 1) := by decide +kernel
theorem d_J_read_1 : decode I_J_read.2.1 1 = .ok (.getfield 77, 3) := by decide +kernel
theorem d_J_read_4 : decode I_J_read.2.1 4 = .ok (.iload_n 1, 1) := by decide +kernel
theorem d_J_read_5 : decode I_J_read.2.1 5 = .ok (.invokevirtual 130, 3) := by decide +kernel
theorem d_J_read_8 : decode I_J_read.2.1 8 = .ok (.ifCond .ne 6, 3) := by decide +kernel
theorem d_J_read_11 : decode I_J_read.2.1 11 = .ok (.bipush (-2), 2) := by decide +kernel
theorem d_J_read_13 : decode I_J_read.2.1 13 = .ok (.ireturn, 1) := by decide +kernel
theorem d_J_read_14 : decode I_J_read.2.1 14 = .ok (.aload_n 0, 1) := by decide +kernel
theorem d_J_read_15 : decode I_J_read.2.1 15 = .ok (.getfield 77, 3) := by decide +kernel
theorem d_J_read_18 : decode I_J_read.2.1 18 = .ok (.iload_n 1, 1) := by decide +kernel
theorem d_J_read_19 : decode I_J_read.2.1 19 = .ok (.invokevirtual 133, 3) := by decide +kernel
theorem d_J_read_22 : decode I_J_read.2.1 22 = .ok (.ifCond .eq 12, 3) := by decide +kernel
theorem d_J_read_25 : decode I_J_read.2.1 25 = .ok (.aload_n 0, 1) := by decide +kernel
theorem d_J_read_26 : decode I_J_read.2.1 26 = .ok (.getfield 77, 3) := by decide +kernel
theorem d_J_read_29 : decode I_J_read.2.1 29 = .ok (.iconst 1, 1) := by decide +kernel
theorem d_J_read_30 : decode I_J_read.2.1 30 = .ok (.invokevirtual 136, 3) := by decide +kernel
theorem d_J_read_33 : decode I_J_read.2.1 33 = .ok (.ireturn, 1) := by decide +kernel
theorem d_J_read_34 : decode I_J_read.2.1 34 = .ok (.aload_n 0, 1) := by decide +kernel
theorem d_J_read_35 : decode I_J_read.2.1 35 = .ok (.getfield 77, 3) := by decide +kernel
theorem d_J_read_38 : decode I_J_read.2.1 38 = .ok (.getfield 140, 3) := by decide +kernel
theorem d_J_read_41 : decode I_J_read.2.1 41 = .ok (.iload_n 1, 1) := by decide +kernel
theorem d_J_read_42 : decode I_J_read.2.1 42 = .ok (.aaload, 1) := by decide +kernel
theorem d_J_read_43 : decode I_J_read.2.1 43 = .ok (.astore_n 2, 1) := by decide +kernel
theorem d_J_read_44 : decode I_J_read.2.1 44 = .ok (.iconst 0, 1) := by decide +kernel
theorem d_J_read_45 : decode I_J_read.2.1 45 = .ok (.istore_n 3, 1) := by decide +kernel
theorem d_J_read_46 : decode I_J_read.2.1 46 = .ok (.iconst 0, 1) := by decide +kernel
theorem d_J_read_47 : decode I_J_read.2.1 47 = .ok (.istore 4, 2) := by decide +kernel
theorem d_J_read_49 : decode I_J_read.2.1 49 = .ok (.iload 4, 2) := by decide +kernel
theorem d_J_read_51 : decode I_J_read.2.1 51 = .ok (.iconst 2, 1) := by decide +kernel
theorem d_J_read_52 : decode I_J_read.2.1 52 = .ok (.iadd, 1) := by decide +kernel
theorem d_J_read_53 : decode I_J_read.2.1 53 = .ok (.aload_n 0, 1) := by decide +kernel
theorem d_J_read_54 : decode I_J_read.2.1 54 = .ok (.getfield 77, 3) := by decide +kernel
theorem d_J_read_57 : decode I_J_read.2.1 57 = .ok (.getfield 143, 3) := by decide +kernel
theorem d_J_read_60 : decode I_J_read.2.1 60 = .ok (.iload_n 1, 1) := by decide +kernel
theorem d_J_read_61 : decode I_J_read.2.1 61 = .ok (.iaload, 1) := by decide +kernel
theorem d_J_read_62 : decode I_J_read.2.1 62 = .ok (.if_icmp .ge 47, 3) := by decide +kernel
theorem d_J_read_65 : decode I_J_read.2.1 65 = .ok (.iload 4, 2) := by decide +kernel
theorem d_J_read_67 : decode I_J_read.2.1 67 = .ok (.iconst 2, 1) := by decide +kernel
theorem d_J_read_68 : decode I_J_read.2.1 68 = .ok (.iadd, 1) := by decide +kernel
theorem d_J_read_69 : decode I_J_read.2.1 69 = .ok (.aload_n 2, 1) := by decide +kernel
theorem d_J_read_70 : decode I_J_read.2.1 70 = .ok (.arraylength, 1) := by decide +kernel
theorem d_J_read_71 : decode I_J_read.2.1 71 = .ok (.if_icmp .ge 38, 3) := by decide +kernel
theorem d_J_read_74 : decode I_J_read.2.1 74 = .ok (.aload_n 0, 1) := by decide +kernel
theorem d_J_read_75 : decode I_J_read.2.1 75 = .ok (.aload_n 2, 1) := by decide +kernel
theorem d_J_read_76 : decode I_J_read.2.1 76 = .ok (.iload 4, 2) := by decide +kernel
theorem d_J_read_78 : decode I_J_read.2.1 78 = .ok (.iaload, 1) := by decide +kernel
theorem d_J_read_79 : decode I_J_read.2.1 79 = .ok (.aload_n 2, 1) := by decide +kernel
theorem d_J_read_80 : decode I_J_read.2.1 80 = .ok (.iload 4, 2) := by decide +kernel
theorem d_J_read_82 : decode I_J_read.2.1 82 = .ok (.iconst 1, 1) := by decide +kernel
theorem d_J_read_83 : decode I_J_read.2.1 83 = .ok (.iadd, 1) := by decide +kernel
theorem d_J_read_84 : decode I_J_read.2.1 84 = .ok (.iaload, 1) := by decide +kernel
theorem d_J_read_85 : decode I_J_read.2.1 85 = .ok (.aload_n 2, 1) := by decide +kernel
theorem d_J_read_86 : decode I_J_read.2.1 86 = .ok (.iload 4, 2) := by decide +kernel
theorem d_J_read_88 : decode I_J_read.2.1 88 = .ok (.iconst 2, 1) := by decide +kernel
theorem d_J_read_89 : decode I_J_read.2.1 89 = .ok (.iadd, 1) := by decide +kernel
theorem d_J_read_90 : decode I_J_read.2.1 90 = .ok (.iaload, 1) := by decide +kernel
theorem d_J_read_91 : decode I_J_read.2.1 91 = .ok (.invokevirtual 146, 3) := by decide +kernel
theorem d_J_read_94 : decode I_J_read.2.1 94 = .ok (.ifCond .ge 6, 3) := by decide +kernel
theorem d_J_read_97 : decode I_J_read.2.1 97 = .ok (.goto 12, 3) := by decide +kernel
theorem d_J_read_100 : decode I_J_read.2.1 100 = .ok (.iinc 3 1, 3) := by decide +kernel
theorem d_J_read_103 : decode I_J_read.2.1 103 = .ok (.iinc 4 3, 3) := by decide +kernel
theorem d_J_read_106 : decode I_J_read.2.1 106 = .ok (.goto (-57), 3) := by decide +kernel
theorem d_J_read_109 : decode I_J_read.2.1 109 = .ok (.iload_n 3, 1) := by decide +kernel
theorem d_J_read_110 : decode I_J_read.2.1 110 = .ok (.ireturn, 1) := by decide +kernel
theorem d_J_liking_0 : decode I_J_liking.2.1 0 = .ok (.iload_n 1, 1) := by decide +kernel
theorem d_J_liking_1 : decode I_J_liking.2.1 1 = .ok (.invokestatic 111, 3) := by decide +kernel
theorem d_J_liking_4 : decode I_J_liking.2.1 4 = .ok (.ifCond .eq 21, 3) := by decide +kernel
theorem d_J_liking_7 : decode I_J_liking.2.1 7 = .ok (.iload_n 2, 1) := by decide +kernel
theorem d_J_liking_8 : decode I_J_liking.2.1 8 = .ok (.invokestatic 117, 3) := by decide +kernel
theorem d_J_liking_11 : decode I_J_liking.2.1 11 = .ok (.ifCond .eq 14, 3) := by decide +kernel
theorem d_J_liking_14 : decode I_J_liking.2.1 14 = .ok (.aload_n 0, 1) := by decide +kernel
theorem d_J_liking_15 : decode I_J_liking.2.1 15 = .ok (.getfield 12, 3) := by decide +kernel
theorem d_J_liking_18 : decode I_J_liking.2.1 18 = .ok (.iload_n 3, 1) := by decide +kernel
theorem d_J_liking_19 : decode I_J_liking.2.1 19 = .ok (.invokevirtual 101, 3) := by decide +kernel
theorem d_J_liking_22 : decode I_J_liking.2.1 22 = .ok (.ifCond .ne 6, 3) := by decide +kernel
theorem d_J_liking_25 : decode I_J_liking.2.1 25 = .ok (.bipush (-2), 2) := by decide +kernel
theorem d_J_liking_27 : decode I_J_liking.2.1 27 = .ok (.ireturn, 1) := by decide +kernel
theorem d_J_liking_28 : decode I_J_liking.2.1 28 = .ok (.aload_n 0, 1) := by decide +kernel
theorem d_J_liking_29 : decode I_J_liking.2.1 29 = .ok (.iload_n 1, 1) := by decide +kernel
theorem d_J_liking_30 : decode I_J_liking.2.1 30 = .ok (.iload_n 2, 1) := by decide +kernel
theorem d_J_liking_31 : decode I_J_liking.2.1 31 = .ok (.invokevirtual 150, 3) := by decide +kernel
theorem d_J_liking_34 : decode I_J_liking.2.1 34 = .ok (.getfield 154, 3) := by decide +kernel
theorem d_J_liking_37 : decode I_J_liking.2.1 37 = .ok (.iload_n 3, 1) := by decide +kernel
theorem d_J_liking_38 : decode I_J_liking.2.1 38 = .ok (.iaload, 1) := by decide +kernel
theorem d_J_liking_39 : decode I_J_liking.2.1 39 = .ok (.ireturn, 1) := by decide +kernel
theorem d_J_found_0 : decode I_J_found.2.1 0 = .ok (.iload_n 1, 1) := by decide +kernel
theorem d_J_found_1 : decode I_J_found.2.1 1 = .ok (.invokestatic 111, 3) := by decide +kernel
theorem d_J_found_4 : decode I_J_found.2.1 4 = .ok (.ifCond .eq 10, 3) := by decide +kernel
theorem d_J_found_7 : decode I_J_found.2.1 7 = .ok (.iload_n 2, 1) := by decide +kernel
theorem d_J_found_8 : decode I_J_found.2.1 8 = .ok (.invokestatic 117, 3) := by decide +kernel
theorem d_J_found_11 : decode I_J_found.2.1 11 = .ok (.ifCond .ne 6, 3) := by decide +kernel
theorem d_J_found_14 : decode I_J_found.2.1 14 = .ok (.bipush (-2), 2) := by decide +kernel
theorem d_J_found_16 : decode I_J_found.2.1 16 = .ok (.ireturn, 1) := by decide +kernel
theorem d_J_found_17 : decode I_J_found.2.1 17 = .ok (.aload_n 0, 1) := by decide +kernel
theorem d_J_found_18 : decode I_J_found.2.1 18 = .ok (.iload_n 1, 1) := by decide +kernel
theorem d_J_found_19 : decode I_J_found.2.1 19 = .ok (.iload_n 2, 1) := by decide +kernel
theorem d_J_found_20 : decode I_J_found.2.1 20 = .ok (.invokevirtual 150, 3) := by decide +kernel
theorem d_J_found_23 : decode I_J_found.2.1 23 = .ok (.getfield 159, 3) := by decide +kernel
theorem d_J_found_26 : decode I_J_found.2.1 26 = .ok (.ireturn, 1) := by decide +kernel
theorem d_J_share_0 : decode I_J_share.2.1 0 = .ok (.iload_n 1, 1) := by decide +kernel
theorem d_J_share_1 : decode I_J_share.2.1 1 = .ok (.invokestatic 117, 3) := by decide +kernel
theorem d_J_share_4 : decode I_J_share.2.1 4 = .ok (.ifCond .eq 21, 3) := by decide +kernel
theorem d_J_share_7 : decode I_J_share.2.1 7 = .ok (.aload_n 0, 1) := by decide +kernel
theorem d_J_share_8 : decode I_J_share.2.1 8 = .ok (.getfield 12, 3) := by decide +kernel
theorem d_J_share_11 : decode I_J_share.2.1 11 = .ok (.iload_n 2, 1) := by decide +kernel
theorem d_J_share_12 : decode I_J_share.2.1 12 = .ok (.invokevirtual 101, 3) := by decide +kernel
theorem d_J_share_15 : decode I_J_share.2.1 15 = .ok (.ifCond .eq 10, 3) := by decide +kernel
theorem d_J_share_18 : decode I_J_share.2.1 18 = .ok (.iload_n 3, 1) := by decide +kernel
theorem d_J_share_19 : decode I_J_share.2.1 19 = .ok (.invokestatic 162, 3) := by decide +kernel
theorem d_J_share_22 : decode I_J_share.2.1 22 = .ok (.ifCond .ne 9, 3) := by decide +kernel
theorem d_J_share_25 : decode I_J_share.2.1 25 = .ok (.bipush (-2), 2) := by decide +kernel
theorem d_J_share_27 : decode I_J_share.2.1 27 = .ok (.invokestatic 165, 3) := by decide +kernel
theorem d_J_share_30 : decode I_J_share.2.1 30 = .ok (.lreturn, 1) := by decide +kernel
theorem d_J_share_31 : decode I_J_share.2.1 31 = .ok (.aload_n 0, 1) := by decide +kernel
theorem d_J_share_32 : decode I_J_share.2.1 32 = .ok (.iconst 0, 1) := by decide +kernel
theorem d_J_share_33 : decode I_J_share.2.1 33 = .ok (.iload_n 1, 1) := by decide +kernel
theorem d_J_share_34 : decode I_J_share.2.1 34 = .ok (.invokevirtual 150, 3) := by decide +kernel
theorem d_J_share_37 : decode I_J_share.2.1 37 = .ok (.astore 4, 2) := by decide +kernel
theorem d_J_share_39 : decode I_J_share.2.1 39 = .ok (.lconst 0, 1) := by decide +kernel
theorem d_J_share_40 : decode I_J_share.2.1 40 = .ok (.lstore 5, 2) := by decide +kernel
theorem d_J_share_42 : decode I_J_share.2.1 42 = .ok (.iconst 0, 1) := by decide +kernel
theorem d_J_share_43 : decode I_J_share.2.1 43 = .ok (.istore 7, 2) := by decide +kernel
theorem d_J_share_45 : decode I_J_share.2.1 45 = .ok (.iload 7, 2) := by decide +kernel
theorem d_J_share_47 : decode I_J_share.2.1 47 = .ok (.aload_n 0, 1) := by decide +kernel
theorem d_J_share_48 : decode I_J_share.2.1 48 = .ok (.getfield 12, 3) := by decide +kernel
theorem d_J_share_51 : decode I_J_share.2.1 51 = .ok (.getfield 169, 3) := by decide +kernel
theorem d_J_share_54 : decode I_J_share.2.1 54 = .ok (.if_icmp .ge 23, 3) := by decide +kernel
theorem d_J_share_57 : decode I_J_share.2.1 57 = .ok (.lload 5, 2) := by decide +kernel
theorem d_J_share_59 : decode I_J_share.2.1 59 = .ok (.aload 4, 2) := by decide +kernel
theorem d_J_share_61 : decode I_J_share.2.1 61 = .ok (.getfield 154, 3) := by decide +kernel
theorem d_J_share_64 : decode I_J_share.2.1 64 = .ok (.iload 7, 2) := by decide +kernel
theorem d_J_share_66 : decode I_J_share.2.1 66 = .ok (.iaload, 1) := by decide +kernel
theorem d_J_share_67 : decode I_J_share.2.1 67 = .ok (.i2l, 1) := by decide +kernel
theorem d_J_share_68 : decode I_J_share.2.1 68 = .ok (.ladd, 1) := by decide +kernel
theorem d_J_share_69 : decode I_J_share.2.1 69 = .ok (.lstore 5, 2) := by decide +kernel
theorem d_J_share_71 : decode I_J_share.2.1 71 = .ok (.iinc 7 1, 3) := by decide +kernel
theorem d_J_share_74 : decode I_J_share.2.1 74 = .ok (.goto (-29), 3) := by decide +kernel
theorem d_J_share_77 : decode I_J_share.2.1 77 = .ok (.lload 5, 2) := by decide +kernel
theorem d_J_share_79 : decode I_J_share.2.1 79 = .ok (.lconst 0, 1) := by decide +kernel
theorem d_J_share_80 : decode I_J_share.2.1 80 = .ok (.lcmp, 1) := by decide +kernel
theorem d_J_share_81 : decode I_J_share.2.1 81 = .ok (.ifCond .ne 9, 3) := by decide +kernel
theorem d_J_share_84 : decode I_J_share.2.1 84 = .ok (.bipush (-3), 2) := by decide +kernel
theorem d_J_share_86 : decode I_J_share.2.1 86 = .ok (.invokestatic 165, 3) := by decide +kernel
theorem d_J_share_89 : decode I_J_share.2.1 89 = .ok (.lreturn, 1) := by decide +kernel
theorem d_J_share_90 : decode I_J_share.2.1 90 = .ok (.aload 4, 2) := by decide +kernel
theorem d_J_share_92 : decode I_J_share.2.1 92 = .ok (.getfield 154, 3) := by decide +kernel
theorem d_J_share_95 : decode I_J_share.2.1 95 = .ok (.iload_n 2, 1) := by decide +kernel
theorem d_J_share_96 : decode I_J_share.2.1 96 = .ok (.iaload, 1) := by decide +kernel
theorem d_J_share_97 : decode I_J_share.2.1 97 = .ok (.i2l, 1) := by decide +kernel
theorem d_J_share_98 : decode I_J_share.2.1 98 = .ok (.lload 5, 2) := by decide +kernel
theorem d_J_share_100 : decode I_J_share.2.1 100 = .ok (.iload_n 3, 1) := by decide +kernel
theorem d_J_share_101 : decode I_J_share.2.1 101 = .ok (.invokestatic 172, 3) := by decide +kernel
theorem d_J_share_104 : decode I_J_share.2.1 104 = .ok (.lreturn, 1) := by decide +kernel
theorem d_J_quarrel_0 : decode I_J_quarrel.2.1 0 = .ok (.iload_n 1, 1) := by decide +kernel
theorem d_J_quarrel_1 : decode I_J_quarrel.2.1 1 = .ok (.invokestatic 162, 3) := by decide +kernel
theorem d_J_quarrel_4 : decode I_J_quarrel.2.1 4 = .ok (.ifCond .ne 6, 3) := by decide +kernel
theorem d_J_quarrel_7 : decode I_J_quarrel.2.1 7 = .ok (.bipush (-2), 2) := by decide +kernel
theorem d_J_quarrel_9 : decode I_J_quarrel.2.1 9 = .ok (.ireturn, 1) := by decide +kernel
theorem d_J_quarrel_10 : decode I_J_quarrel.2.1 10 = .ok (.aload_n 0, 1) := by decide +kernel
theorem d_J_quarrel_11 : decode I_J_quarrel.2.1 11 = .ok (.iconst 0, 1) := by decide +kernel
theorem d_J_quarrel_12 : decode I_J_quarrel.2.1 12 = .ok (.invokevirtual 176, 3) := by decide +kernel
theorem d_J_quarrel_15 : decode I_J_quarrel.2.1 15 = .ok (.aload_n 0, 1) := by decide +kernel
theorem d_J_quarrel_16 : decode I_J_quarrel.2.1 16 = .ok (.getfield 82, 3) := by decide +kernel
theorem d_J_quarrel_19 : decode I_J_quarrel.2.1 19 = .ok (.iconst 0, 1) := by decide +kernel
theorem d_J_quarrel_20 : decode I_J_quarrel.2.1 20 = .ok (.aaload, 1) := by decide +kernel
theorem d_J_quarrel_21 : decode I_J_quarrel.2.1 21 = .ok (.astore_n 2, 1) := by decide +kernel
theorem d_J_quarrel_22 : decode I_J_quarrel.2.1 22 = .ok (.iconst 1, 1) := by decide +kernel
theorem d_J_quarrel_23 : decode I_J_quarrel.2.1 23 = .ok (.istore_n 3, 1) := by decide +kernel
theorem d_J_quarrel_24 : decode I_J_quarrel.2.1 24 = .ok (.iload_n 3, 1) := by decide +kernel
theorem d_J_quarrel_25 : decode I_J_quarrel.2.1 25 = .ok (.bipush 30, 2) := by decide +kernel
theorem d_J_quarrel_27 : decode I_J_quarrel.2.1 27 = .ok (.if_icmp .ge 55, 3) := by decide +kernel
theorem d_J_quarrel_30 : decode I_J_quarrel.2.1 30 = .ok (.iconst 0, 1) := by decide +kernel
theorem d_J_quarrel_31 : decode I_J_quarrel.2.1 31 = .ok (.istore 4, 2) := by decide +kernel
theorem d_J_quarrel_33 : decode I_J_quarrel.2.1 33 = .ok (.iload 4, 2) := by decide +kernel
theorem d_J_quarrel_35 : decode I_J_quarrel.2.1 35 = .ok (.iload_n 3, 1) := by decide +kernel
theorem d_J_quarrel_36 : decode I_J_quarrel.2.1 36 = .ok (.if_icmp .ge 40, 3) := by decide +kernel
theorem d_J_quarrel_39 : decode I_J_quarrel.2.1 39 = .ok (.aload_n 2, 1) := by decide +kernel
theorem d_J_quarrel_40 : decode I_J_quarrel.2.1 40 = .ok (.iload_n 3, 1) := by decide +kernel
theorem d_J_quarrel_41 : decode I_J_quarrel.2.1 41 = .ok (.iaload, 1) := by decide +kernel
theorem d_J_quarrel_42 : decode I_J_quarrel.2.1 42 = .ok (.aload_n 2, 1) := by decide +kernel
theorem d_J_quarrel_43 : decode I_J_quarrel.2.1 43 = .ok (.iload 4, 2) := by decide +kernel
theorem d_J_quarrel_45 : decode I_J_quarrel.2.1 45 = .ok (.iaload, 1) := by decide +kernel
theorem d_J_quarrel_46 : decode I_J_quarrel.2.1 46 = .ok (.if_icmp .eq 24, 3) := by decide +kernel
theorem d_J_quarrel_49 : decode I_J_quarrel.2.1 49 = .ok (.aload_n 0, 1) := by decide +kernel
theorem d_J_quarrel_50 : decode I_J_quarrel.2.1 50 = .ok (.iload_n 3, 1) := by decide +kernel
theorem d_J_quarrel_51 : decode I_J_quarrel.2.1 51 = .ok (.iload 4, 2) := by decide +kernel
theorem d_J_quarrel_53 : decode I_J_quarrel.2.1 53 = .ok (.invokevirtual 180, 3) := by decide +kernel
theorem d_J_quarrel_56 : decode I_J_quarrel.2.1 56 = .ok (.ifCond .eq 14, 3) := by decide +kernel
theorem d_J_quarrel_59 : decode I_J_quarrel.2.1 59 = .ok (.iload_n 1, 1) := by decide +kernel
theorem d_J_quarrel_60 : decode I_J_quarrel.2.1 60 = .ok (.ifCond .ne 7, 3) := by decide +kernel
theorem d_J_quarrel_63 : decode I_J_quarrel.2.1 63 = .ok (.iload_n 3, 1) := by decide +kernel
theorem d_J_quarrel_64 : decode I_J_quarrel.2.1 64 = .ok (.goto 5, 3) := by decide +kernel
theorem d_J_quarrel_67 : decode I_J_quarrel.2.1 67 = .ok (.iload 4, 2) := by decide +kernel
theorem d_J_quarrel_69 : decode I_J_quarrel.2.1 69 = .ok (.ireturn, 1) := by decide +kernel
theorem d_J_quarrel_70 : decode I_J_quarrel.2.1 70 = .ok (.iinc 4 1, 3) := by decide +kernel
theorem d_J_quarrel_73 : decode I_J_quarrel.2.1 73 = .ok (.goto (-40), 3) := by decide +kernel
theorem d_J_quarrel_76 : decode I_J_quarrel.2.1 76 = .ok (.iinc 3 1, 3) := by decide +kernel
theorem d_J_quarrel_79 : decode I_J_quarrel.2.1 79 = .ok (.goto (-55), 3) := by decide +kernel
theorem d_J_quarrel_82 : decode I_J_quarrel.2.1 82 = .ok (.iconst (-1), 1) := by decide +kernel
theorem d_J_quarrel_83 : decode I_J_quarrel.2.1 83 = .ok (.ireturn, 1) := by decide +kernel
theorem d_J_dissent_0 : decode I_J_dissent.2.1 0 = .ok (.aload_n 0, 1) := by decide +kernel
theorem d_J_dissent_1 : decode I_J_dissent.2.1 1 = .ok (.iconst 0, 1) := by decide +kernel
theorem d_J_dissent_2 : decode I_J_dissent.2.1 2 = .ok (.invokevirtual 176, 3) := by decide +kernel
theorem d_J_dissent_5 : decode I_J_dissent.2.1 5 = .ok (.aload_n 0, 1) := by decide +kernel
theorem d_J_dissent_6 : decode I_J_dissent.2.1 6 = .ok (.iconst 1, 1) := by decide +kernel
theorem d_J_dissent_7 : decode I_J_dissent.2.1 7 = .ok (.invokevirtual 176, 3) := by decide +kernel
theorem d_J_dissent_10 : decode I_J_dissent.2.1 10 = .ok (.iconst 0, 1) := by decide +kernel
theorem d_J_dissent_11 : decode I_J_dissent.2.1 11 = .ok (.istore_n 1, 1) := by decide +kernel
theorem d_J_dissent_12 : decode I_J_dissent.2.1 12 = .ok (.iconst 0, 1) := by decide +kernel
theorem d_J_dissent_13 : decode I_J_dissent.2.1 13 = .ok (.istore_n 2, 1) := by decide +kernel
theorem d_J_dissent_14 : decode I_J_dissent.2.1 14 = .ok (.iload_n 2, 1) := by decide +kernel
theorem d_J_dissent_15 : decode I_J_dissent.2.1 15 = .ok (.bipush 30, 2) := by decide +kernel
theorem d_J_dissent_17 : decode I_J_dissent.2.1 17 = .ok (.if_icmp .ge 34, 3) := by decide +kernel
theorem d_J_dissent_20 : decode I_J_dissent.2.1 20 = .ok (.aload_n 0, 1) := by decide +kernel
theorem d_J_dissent_21 : decode I_J_dissent.2.1 21 = .ok (.getfield 82, 3) := by decide +kernel
theorem d_J_dissent_24 : decode I_J_dissent.2.1 24 = .ok (.iconst 0, 1) := by decide +kernel
theorem d_J_dissent_25 : decode I_J_dissent.2.1 25 = .ok (.aaload, 1) := by decide +kernel
theorem d_J_dissent_26 : decode I_J_dissent.2.1 26 = .ok (.iload_n 2, 1) := by decide +kernel
theorem d_J_dissent_27 : decode I_J_dissent.2.1 27 = .ok (.iaload, 1) := by decide +kernel
theorem d_J_dissent_28 : decode I_J_dissent.2.1 28 = .ok (.aload_n 0, 1) := by decide +kernel
theorem d_J_dissent_29 : decode I_J_dissent.2.1 29 = .ok (.getfield 82, 3) := by decide +kernel
theorem d_J_dissent_32 : decode I_J_dissent.2.1 32 = .ok (.iconst 1, 1) := by decide +kernel
theorem d_J_dissent_33 : decode I_J_dissent.2.1 33 = .ok (.aaload, 1) := by decide +kernel
theorem d_J_dissent_34 : decode I_J_dissent.2.1 34 = .ok (.iload_n 2, 1) := by decide +kernel
theorem d_J_dissent_35 : decode I_J_dissent.2.1 35 = .ok (.iaload, 1) := by decide +kernel
theorem d_J_dissent_36 : decode I_J_dissent.2.1 36 = .ok (.if_icmp .eq 9, 3) := by decide +kernel
theorem d_J_dissent_39 : decode I_J_dissent.2.1 39 = .ok (.iload_n 1, 1) := by decide +kernel
theorem d_J_dissent_40 : decode I_J_dissent.2.1 40 = .ok (.iconst 1, 1) := by decide +kernel
theorem d_J_dissent_41 : decode I_J_dissent.2.1 41 = .ok (.iload_n 2, 1) := by decide +kernel
theorem d_J_dissent_42 : decode I_J_dissent.2.1 42 = .ok (.ishl, 1) := by decide +kernel
theorem d_J_dissent_43 : decode I_J_dissent.2.1 43 = .ok (.ior, 1) := by decide +kernel
theorem d_J_dissent_44 : decode I_J_dissent.2.1 44 = .ok (.istore_n 1, 1) := by decide +kernel
theorem d_J_dissent_45 : decode I_J_dissent.2.1 45 = .ok (.iinc 2 1, 3) := by decide +kernel
theorem d_J_dissent_48 : decode I_J_dissent.2.1 48 = .ok (.goto (-34), 3) := by decide +kernel
theorem d_J_dissent_51 : decode I_J_dissent.2.1 51 = .ok (.iload_n 1, 1) := by decide +kernel
theorem d_J_dissent_52 : decode I_J_dissent.2.1 52 = .ok (.ireturn, 1) := by decide +kernel
theorem d_J_changes_0 : decode I_J_changes.2.1 0 = .ok (.aload_n 0, 1) := by decide +kernel
theorem d_J_changes_1 : decode I_J_changes.2.1 1 = .ok (.iconst 0, 1) := by decide +kernel
theorem d_J_changes_2 : decode I_J_changes.2.1 2 = .ok (.invokevirtual 176, 3) := by decide +kernel
theorem d_J_changes_5 : decode I_J_changes.2.1 5 = .ok (.iconst 0, 1) := by decide +kernel
theorem d_J_changes_6 : decode I_J_changes.2.1 6 = .ok (.istore_n 1, 1) := by decide +kernel
theorem d_J_changes_7 : decode I_J_changes.2.1 7 = .ok (.iconst (-1), 1) := by decide +kernel
theorem d_J_changes_8 : decode I_J_changes.2.1 8 = .ok (.istore_n 2, 1) := by decide +kernel
theorem d_J_changes_9 : decode I_J_changes.2.1 9 = .ok (.iconst 0, 1) := by decide +kernel
theorem d_J_changes_10 : decode I_J_changes.2.1 10 = .ok (.istore_n 3, 1) := by decide +kernel
theorem d_J_changes_11 : decode I_J_changes.2.1 11 = .ok (.iload_n 3, 1) := by decide +kernel
theorem d_J_changes_12 : decode I_J_changes.2.1 12 = .ok (.bipush 30, 2) := by decide +kernel
theorem d_J_changes_14 : decode I_J_changes.2.1 14 = .ok (.if_icmp .ge 31, 3) := by decide +kernel
theorem d_J_changes_17 : decode I_J_changes.2.1 17 = .ok (.aload_n 0, 1) := by decide +kernel
theorem d_J_changes_18 : decode I_J_changes.2.1 18 = .ok (.getfield 82, 3) := by decide +kernel
theorem d_J_changes_21 : decode I_J_changes.2.1 21 = .ok (.iconst 0, 1) := by decide +kernel
theorem d_J_changes_22 : decode I_J_changes.2.1 22 = .ok (.aaload, 1) := by decide +kernel
theorem d_J_changes_23 : decode I_J_changes.2.1 23 = .ok (.iload_n 3, 1) := by decide +kernel
theorem d_J_changes_24 : decode I_J_changes.2.1 24 = .ok (.iaload, 1) := by decide +kernel
theorem d_J_changes_25 : decode I_J_changes.2.1 25 = .ok (.istore 4, 2) := by decide +kernel
theorem d_J_changes_27 : decode I_J_changes.2.1 27 = .ok (.iload 4, 2) := by decide +kernel
theorem d_J_changes_29 : decode I_J_changes.2.1 29 = .ok (.iload_n 2, 1) := by decide +kernel
theorem d_J_changes_30 : decode I_J_changes.2.1 30 = .ok (.if_icmp .eq 6, 3) := by decide +kernel
theorem d_J_changes_33 : decode I_J_changes.2.1 33 = .ok (.iinc 1 1, 3) := by decide +kernel
theorem d_J_changes_36 : decode I_J_changes.2.1 36 = .ok (.iload 4, 2) := by decide +kernel
theorem d_J_changes_38 : decode I_J_changes.2.1 38 = .ok (.istore_n 2, 1) := by decide +kernel
theorem d_J_changes_39 : decode I_J_changes.2.1 39 = .ok (.iinc 3 1, 3) := by decide +kernel
theorem d_J_changes_42 : decode I_J_changes.2.1 42 = .ok (.goto (-31), 3) := by decide +kernel
theorem d_J_changes_45 : decode I_J_changes.2.1 45 = .ok (.iload_n 1, 1) := by decide +kernel
theorem d_J_changes_46 : decode I_J_changes.2.1 46 = .ok (.ireturn, 1) := by decide +kernel
theorem d_J_suit_0 : decode I_J_suit.2.1 0 = .ok (.aload_n 0, 1) := by decide +kernel
theorem d_J_suit_1 : decode I_J_suit.2.1 1 = .ok (.getfield 12, 3) := by decide +kernel
theorem d_J_suit_4 : decode I_J_suit.2.1 4 = .ok (.iload_n 1, 1) := by decide +kernel
theorem d_J_suit_5 : decode I_J_suit.2.1 5 = .ok (.invokevirtual 101, 3) := by decide +kernel
theorem d_J_suit_8 : decode I_J_suit.2.1 8 = .ok (.ifCond .eq 20, 3) := by decide +kernel
theorem d_J_suit_11 : decode I_J_suit.2.1 11 = .ok (.iload_n 2, 1) := by decide +kernel
theorem d_J_suit_12 : decode I_J_suit.2.1 12 = .ok (.invokestatic 184, 3) := by decide +kernel
theorem d_J_suit_15 : decode I_J_suit.2.1 15 = .ok (.ifCond .eq 13, 3) := by decide +kernel
theorem d_J_suit_18 : decode I_J_suit.2.1 18 = .ok (.iload_n 3, 1) := by decide +kernel
theorem d_J_suit_19 : decode I_J_suit.2.1 19 = .ok (.iconst (-1), 1) := by decide +kernel
theorem d_J_suit_20 : decode I_J_suit.2.1 20 = .ok (.if_icmp .lt 8, 3) := by decide +kernel
theorem d_J_suit_23 : decode I_J_suit.2.1 23 = .ok (.iload_n 3, 1) := by decide +kernel
theorem d_J_suit_24 : decode I_J_suit.2.1 24 = .ok (.iconst 3, 1) := by decide +kernel
theorem d_J_suit_25 : decode I_J_suit.2.1 25 = .ok (.if_icmp .lt 6, 3) := by decide +kernel
theorem d_J_suit_28 : decode I_J_suit.2.1 28 = .ok (.bipush (-2), 2) := by decide +kernel
theorem d_J_suit_30 : decode I_J_suit.2.1 30 = .ok (.ireturn, 1) := by decide +kernel
theorem d_J_suit_31 : decode I_J_suit.2.1 31 = .ok (.iconst 0, 1) := by decide +kernel
theorem d_J_suit_32 : decode I_J_suit.2.1 32 = .ok (.istore 4, 2) := by decide +kernel
theorem d_J_suit_34 : decode I_J_suit.2.1 34 = .ok (.iload 4, 2) := by decide +kernel
theorem d_J_suit_36 : decode I_J_suit.2.1 36 = .ok (.iconst 3, 1) := by decide +kernel
theorem d_J_suit_37 : decode I_J_suit.2.1 37 = .ok (.if_icmp .gt 66, 3) := by decide +kernel
theorem d_J_suit_40 : decode I_J_suit.2.1 40 = .ok (.aload_n 0, 1) := by decide +kernel
theorem d_J_suit_41 : decode I_J_suit.2.1 41 = .ok (.getfield 56, 3) := by decide +kernel
theorem d_J_suit_44 : decode I_J_suit.2.1 44 = .ok (.aload_n 0, 1) := by decide +kernel
theorem d_J_suit_45 : decode I_J_suit.2.1 45 = .ok (.getfield 28, 3) := by decide +kernel
theorem d_J_suit_48 : decode I_J_suit.2.1 48 = .ok (.iconst 0, 1) := by decide +kernel
theorem d_J_suit_49 : decode I_J_suit.2.1 49 = .ok (.aaload, 1) := by decide +kernel
theorem d_J_suit_50 : decode I_J_suit.2.1 50 = .ok (.iload_n 1, 1) := by decide +kernel
theorem d_J_suit_51 : decode I_J_suit.2.1 51 = .ok (.iload_n 2, 1) := by decide +kernel
theorem d_J_suit_52 : decode I_J_suit.2.1 52 = .ok (.invokevirtual 187, 3) := by decide +kernel
theorem d_J_suit_55 : decode I_J_suit.2.1 55 = .ok (.aload_n 0, 1) := by decide +kernel
theorem d_J_suit_56 : decode I_J_suit.2.1 56 = .ok (.getfield 56, 3) := by decide +kernel
theorem d_J_suit_59 : decode I_J_suit.2.1 59 = .ok (.iconst 0, 1) := by decide +kernel
theorem d_J_suit_60 : decode I_J_suit.2.1 60 = .ok (.iconst 0, 1) := by decide +kernel
theorem d_J_suit_61 : decode I_J_suit.2.1 61 = .ok (.iload 4, 2) := by decide +kernel
theorem d_J_suit_63 : decode I_J_suit.2.1 63 = .ok (.invokestatic 191, 3) := by decide +kernel
theorem d_J_suit_66 : decode I_J_suit.2.1 66 = .ok (.ifCond .eq 31, 3) := by decide +kernel
theorem d_J_suit_69 : decode I_J_suit.2.1 69 = .ok (.iload_n 3, 1) := by decide +kernel
theorem d_J_suit_70 : decode I_J_suit.2.1 70 = .ok (.iconst (-1), 1) := by decide +kernel
theorem d_J_suit_71 : decode I_J_suit.2.1 71 = .ok (.if_icmp .ne 6, 3) := by decide +kernel
theorem d_J_suit_74 : decode I_J_suit.2.1 74 = .ok (.iload 4, 2) := by decide +kernel
theorem d_J_suit_76 : decode I_J_suit.2.1 76 = .ok (.ireturn, 1) := by decide +kernel
theorem d_J_suit_77 : decode I_J_suit.2.1 77 = .ok (.iload_n 3, 1) := by decide +kernel
theorem d_J_suit_78 : decode I_J_suit.2.1 78 = .ok (.iload 4, 2) := by decide +kernel
theorem d_J_suit_80 : decode I_J_suit.2.1 80 = .ok (.if_icmp .ge 15, 3) := by decide +kernel
theorem d_J_suit_83 : decode I_J_suit.2.1 83 = .ok (.aload_n 0, 1) := by decide +kernel
theorem d_J_suit_84 : decode I_J_suit.2.1 84 = .ok (.getfield 56, 3) := by decide +kernel
theorem d_J_suit_87 : decode I_J_suit.2.1 87 = .ok (.getfield 195, 3) := by decide +kernel
theorem d_J_suit_90 : decode I_J_suit.2.1 90 = .ok (.iload_n 3, 1) := by decide +kernel
theorem d_J_suit_91 : decode I_J_suit.2.1 91 = .ok (.iaload, 1) := by decide +kernel
theorem d_J_suit_92 : decode I_J_suit.2.1 92 = .ok (.goto 4, 3) := by decide +kernel
theorem d_J_suit_95 : decode I_J_suit.2.1 95 = .ok (.iconst (-1), 1) := by decide +kernel
theorem d_J_suit_96 : decode I_J_suit.2.1 96 = .ok (.ireturn, 1) := by decide +kernel
theorem d_J_suit_97 : decode I_J_suit.2.1 97 = .ok (.iinc 4 1, 3) := by decide +kernel
theorem d_J_suit_100 : decode I_J_suit.2.1 100 = .ok (.goto (-66), 3) := by decide +kernel
theorem d_J_suit_103 : decode I_J_suit.2.1 103 = .ok (.iconst (-1), 1) := by decide +kernel
theorem d_J_suit_104 : decode I_J_suit.2.1 104 = .ok (.ireturn, 1) := by decide +kernel
theorem d_J_replies_0 : decode I_J_replies.2.1 0 = .ok (.aload_n 0, 1) := by decide +kernel
theorem d_J_replies_1 : decode I_J_replies.2.1 1 = .ok (.getfield 12, 3) := by decide +kernel
theorem d_J_replies_4 : decode I_J_replies.2.1 4 = .ok (.iload_n 1, 1) := by decide +kernel
theorem d_J_replies_5 : decode I_J_replies.2.1 5 = .ok (.invokevirtual 101, 3) := by decide +kernel
theorem d_J_replies_8 : decode I_J_replies.2.1 8 = .ok (.ifCond .eq 19, 3) := by decide +kernel
theorem d_J_replies_11 : decode I_J_replies.2.1 11 = .ok (.aload_n 0, 1) := by decide +kernel
theorem d_J_replies_12 : decode I_J_replies.2.1 12 = .ok (.getfield 12, 3) := by decide +kernel
theorem d_J_replies_15 : decode I_J_replies.2.1 15 = .ok (.iload_n 2, 1) := by decide +kernel
theorem d_J_replies_16 : decode I_J_replies.2.1 16 = .ok (.invokevirtual 101, 3) := by decide +kernel
theorem d_J_replies_19 : decode I_J_replies.2.1 19 = .ok (.ifCond .eq 8, 3) := by decide +kernel
theorem d_J_replies_22 : decode I_J_replies.2.1 22 = .ok (.iload_n 1, 1) := by decide +kernel
theorem d_J_replies_23 : decode I_J_replies.2.1 23 = .ok (.iload_n 2, 1) := by decide +kernel
theorem d_J_replies_24 : decode I_J_replies.2.1 24 = .ok (.if_icmp .ne 6, 3) := by decide +kernel
theorem d_J_replies_27 : decode I_J_replies.2.1 27 = .ok (.bipush (-2), 2) := by decide +kernel
theorem d_J_replies_29 : decode I_J_replies.2.1 29 = .ok (.ireturn, 1) := by decide +kernel
theorem d_J_replies_30 : decode I_J_replies.2.1 30 = .ok (.iload_n 3, 1) := by decide +kernel
theorem d_J_replies_31 : decode I_J_replies.2.1 31 = .ok (.iconst 1, 1) := by decide +kernel
theorem d_J_replies_32 : decode I_J_replies.2.1 32 = .ok (.if_icmp .lt 16, 3) := by decide +kernel
theorem d_J_replies_35 : decode I_J_replies.2.1 35 = .ok (.iload_n 3, 1) := by decide +kernel
theorem d_J_replies_36 : decode I_J_replies.2.1 36 = .ok (.iconst 4, 1) := by decide +kernel
theorem d_J_replies_37 : decode I_J_replies.2.1 37 = .ok (.if_icmp .gt 11, 3) := by decide +kernel
theorem d_J_replies_40 : decode I_J_replies.2.1 40 = .ok (.iload 4, 2) := by decide +kernel
theorem d_J_replies_42 : decode I_J_replies.2.1 42 = .ok (.invokestatic 162, 3) := by decide +kernel
theorem d_J_replies_45 : decode I_J_replies.2.1 45 = .ok (.ifCond .ne 6, 3) := by decide +kernel
theorem d_J_replies_48 : decode I_J_replies.2.1 48 = .ok (.bipush (-2), 2) := by decide +kernel
theorem d_J_replies_50 : decode I_J_replies.2.1 50 = .ok (.ireturn, 1) := by decide +kernel
theorem d_J_replies_51 : decode I_J_replies.2.1 51 = .ok (.aload_n 0, 1) := by decide +kernel
theorem d_J_replies_52 : decode I_J_replies.2.1 52 = .ok (.getfield 63, 3) := by decide +kernel
theorem d_J_replies_55 : decode I_J_replies.2.1 55 = .ok (.aload_n 0, 1) := by decide +kernel
theorem d_J_replies_56 : decode I_J_replies.2.1 56 = .ok (.getfield 28, 3) := by decide +kernel
theorem d_J_replies_59 : decode I_J_replies.2.1 59 = .ok (.iconst 0, 1) := by decide +kernel
theorem d_J_replies_60 : decode I_J_replies.2.1 60 = .ok (.aaload, 1) := by decide +kernel
theorem d_J_replies_61 : decode I_J_replies.2.1 61 = .ok (.iload_n 1, 1) := by decide +kernel
theorem d_J_replies_62 : decode I_J_replies.2.1 62 = .ok (.iload_n 2, 1) := by decide +kernel
theorem d_J_replies_63 : decode I_J_replies.2.1 63 = .ok (.iload_n 3, 1) := by decide +kernel
theorem d_J_replies_64 : decode I_J_replies.2.1 64 = .ok (.invokevirtual 198, 3) := by decide +kernel
theorem d_J_replies_67 : decode I_J_replies.2.1 67 = .ok (.istore 5, 2) := by decide +kernel
theorem d_J_replies_69 : decode I_J_replies.2.1 69 = .ok (.iload 4, 2) := by decide +kernel
theorem d_J_replies_71 : decode I_J_replies.2.1 71 = .ok (.iconst 1, 1) := by decide +kernel
theorem d_J_replies_72 : decode I_J_replies.2.1 72 = .ok (.if_icmp .ne 6, 3) := by decide +kernel
theorem d_J_replies_75 : decode I_J_replies.2.1 75 = .ok (.iload 5, 2) := by decide +kernel
theorem d_J_replies_77 : decode I_J_replies.2.1 77 = .ok (.ireturn, 1) := by decide +kernel
theorem d_J_replies_78 : decode I_J_replies.2.1 78 = .ok (.iload 5, 2) := by decide +kernel
theorem d_J_replies_80 : decode I_J_replies.2.1 80 = .ok (.iconst (-1), 1) := by decide +kernel
theorem d_J_replies_81 : decode I_J_replies.2.1 81 = .ok (.if_icmp .ne 7, 3) := by decide +kernel
theorem d_J_replies_84 : decode I_J_replies.2.1 84 = .ok (.iconst 0, 1) := by decide +kernel
theorem d_J_replies_85 : decode I_J_replies.2.1 85 = .ok (.goto 4, 3) := by decide +kernel
theorem d_J_replies_88 : decode I_J_replies.2.1 88 = .ok (.iconst 1, 1) := by decide +kernel
theorem d_J_replies_89 : decode I_J_replies.2.1 89 = .ok (.ireturn, 1) := by decide +kernel
theorem d_J_seen_0 : decode I_J_seen.2.1 0 = .ok (.iload_n 1, 1) := by decide +kernel
theorem d_J_seen_1 : decode I_J_seen.2.1 1 = .ok (.invokestatic 117, 3) := by decide +kernel
theorem d_J_seen_4 : decode I_J_seen.2.1 4 = .ok (.ifCond .eq 14, 3) := by decide +kernel
theorem d_J_seen_7 : decode I_J_seen.2.1 7 = .ok (.iload_n 2, 1) := by decide +kernel
theorem d_J_seen_8 : decode I_J_seen.2.1 8 = .ok (.iconst (-1), 1) := by decide +kernel
theorem d_J_seen_9 : decode I_J_seen.2.1 9 = .ok (.if_icmp .lt 9, 3) := by decide +kernel
theorem d_J_seen_12 : decode I_J_seen.2.1 12 = .ok (.iload_n 2, 1) := by decide +kernel
theorem d_J_seen_13 : decode I_J_seen.2.1 13 = .ok (.bipush 6, 2) := by decide +kernel
theorem d_J_seen_15 : decode I_J_seen.2.1 15 = .ok (.if_icmp .lt 6, 3) := by decide +kernel
theorem d_J_seen_18 : decode I_J_seen.2.1 18 = .ok (.bipush (-2), 2) := by decide +kernel
theorem d_J_seen_20 : decode I_J_seen.2.1 20 = .ok (.ireturn, 1) := by decide +kernel
theorem d_J_seen_21 : decode I_J_seen.2.1 21 = .ok (.aload_n 0, 1) := by decide +kernel
theorem d_J_seen_22 : decode I_J_seen.2.1 22 = .ok (.getfield 47, 3) := by decide +kernel
theorem d_J_seen_25 : decode I_J_seen.2.1 25 = .ok (.getfield 202, 3) := by decide +kernel
theorem d_J_seen_28 : decode I_J_seen.2.1 28 = .ok (.bipush 8, 2) := by decide +kernel
theorem d_J_seen_30 : decode I_J_seen.2.1 30 = .ok (.if_icmp .lt 6, 3) := by decide +kernel
theorem d_J_seen_33 : decode I_J_seen.2.1 33 = .ok (.bipush (-4), 2) := by decide +kernel
theorem d_J_seen_35 : decode I_J_seen.2.1 35 = .ok (.ireturn, 1) := by decide +kernel
theorem d_J_seen_36 : decode I_J_seen.2.1 36 = .ok (.aload_n 0, 1) := by decide +kernel
theorem d_J_seen_37 : decode I_J_seen.2.1 37 = .ok (.getfield 47, 3) := by decide +kernel
theorem d_J_seen_40 : decode I_J_seen.2.1 40 = .ok (.iload_n 1, 1) := by decide +kernel
theorem d_J_seen_41 : decode I_J_seen.2.1 41 = .ok (.iload_n 2, 1) := by decide +kernel
theorem d_J_seen_42 : decode I_J_seen.2.1 42 = .ok (.invokevirtual 203, 3) := by decide +kernel
theorem d_J_seen_45 : decode I_J_seen.2.1 45 = .ok (.aload_n 0, 1) := by decide +kernel
theorem d_J_seen_46 : decode I_J_seen.2.1 46 = .ok (.getfield 47, 3) := by decide +kernel
theorem d_J_seen_49 : decode I_J_seen.2.1 49 = .ok (.getfield 202, 3) := by decide +kernel
theorem d_J_seen_52 : decode I_J_seen.2.1 52 = .ok (.ireturn, 1) := by decide +kernel
theorem d_J_forget_0 : decode I_J_forget.2.1 0 = .ok (.aload_n 0, 1) := by decide +kernel
theorem d_J_forget_1 : decode I_J_forget.2.1 1 = .ok (.getfield 47, 3) := by decide +kernel
theorem d_J_forget_4 : decode I_J_forget.2.1 4 = .ok (.getfield 202, 3) := by decide +kernel
theorem d_J_forget_7 : decode I_J_forget.2.1 7 = .ok (.istore_n 1, 1) := by decide +kernel
theorem d_J_forget_8 : decode I_J_forget.2.1 8 = .ok (.aload_n 0, 1) := by decide +kernel
theorem d_J_forget_9 : decode I_J_forget.2.1 9 = .ok (.getfield 47, 3) := by decide +kernel
theorem d_J_forget_12 : decode I_J_forget.2.1 12 = .ok (.invokevirtual 207, 3) := by decide +kernel
theorem d_J_forget_15 : decode I_J_forget.2.1 15 = .ok (.iload_n 1, 1) := by decide +kernel
theorem d_J_forget_16 : decode I_J_forget.2.1 16 = .ok (.ireturn, 1) := by decide +kernel
theorem d_J_tastes_0 : decode I_J_tastes.2.1 0 = .ok (.iload_n 1, 1) := by decide +kernel
theorem d_J_tastes_1 : decode I_J_tastes.2.1 1 = .ok (.invokestatic 162, 3) := by decide +kernel
theorem d_J_tastes_4 : decode I_J_tastes.2.1 4 = .ok (.ifCond .ne 6, 3) := by decide +kernel
theorem d_J_tastes_7 : decode I_J_tastes.2.1 7 = .ok (.bipush (-2), 2) := by decide +kernel
theorem d_J_tastes_9 : decode I_J_tastes.2.1 9 = .ok (.ireturn, 1) := by decide +kernel
theorem d_J_tastes_10 : decode I_J_tastes.2.1 10 = .ok (.iconst 0, 1) := by decide +kernel
theorem d_J_tastes_11 : decode I_J_tastes.2.1 11 = .ok (.istore_n 2, 1) := by decide +kernel
theorem d_J_tastes_12 : decode I_J_tastes.2.1 12 = .ok (.iconst 0, 1) := by decide +kernel
theorem d_J_tastes_13 : decode I_J_tastes.2.1 13 = .ok (.istore_n 3, 1) := by decide +kernel
theorem d_J_tastes_14 : decode I_J_tastes.2.1 14 = .ok (.iload_n 3, 1) := by decide +kernel
theorem d_J_tastes_15 : decode I_J_tastes.2.1 15 = .ok (.sipush 1000, 3) := by decide +kernel
theorem d_J_tastes_18 : decode I_J_tastes.2.1 18 = .ok (.if_icmp .ge 30, 3) := by decide +kernel
theorem d_J_tastes_21 : decode I_J_tastes.2.1 21 = .ok (.aload_n 0, 1) := by decide +kernel
theorem d_J_tastes_22 : decode I_J_tastes.2.1 22 = .ok (.iload_n 3, 1) := by decide +kernel
theorem d_J_tastes_23 : decode I_J_tastes.2.1 23 = .ok (.invokevirtual 210, 3) := by decide +kernel
theorem d_J_tastes_26 : decode I_J_tastes.2.1 26 = .ok (.ifCond .ne 6, 3) := by decide +kernel
theorem d_J_tastes_29 : decode I_J_tastes.2.1 29 = .ok (.goto 13, 3) := by decide +kernel
theorem d_J_tastes_32 : decode I_J_tastes.2.1 32 = .ok (.iload_n 1, 1) := by decide +kernel
theorem d_J_tastes_33 : decode I_J_tastes.2.1 33 = .ok (.iconst 1, 1) := by decide +kernel
theorem d_J_tastes_34 : decode I_J_tastes.2.1 34 = .ok (.if_icmp .ne 5, 3) := by decide +kernel
theorem d_J_tastes_37 : decode I_J_tastes.2.1 37 = .ok (.iload_n 3, 1) := by decide +kernel
theorem d_J_tastes_38 : decode I_J_tastes.2.1 38 = .ok (.ireturn, 1) := by decide +kernel
theorem d_J_tastes_39 : decode I_J_tastes.2.1 39 = .ok (.iinc 2 1, 3) := by decide +kernel
theorem d_J_tastes_42 : decode I_J_tastes.2.1 42 = .ok (.iinc 3 1, 3) := by decide +kernel
theorem d_J_tastes_45 : decode I_J_tastes.2.1 45 = .ok (.goto (-31), 3) := by decide +kernel
theorem d_J_tastes_48 : decode I_J_tastes.2.1 48 = .ok (.iload_n 1, 1) := by decide +kernel
theorem d_J_tastes_49 : decode I_J_tastes.2.1 49 = .ok (.iconst 1, 1) := by decide +kernel
theorem d_J_tastes_50 : decode I_J_tastes.2.1 50 = .ok (.if_icmp .ne 7, 3) := by decide +kernel
theorem d_J_tastes_53 : decode I_J_tastes.2.1 53 = .ok (.iconst (-1), 1) := by decide +kernel
theorem d_J_tastes_54 : decode I_J_tastes.2.1 54 = .ok (.goto 4, 3) := by decide +kernel
theorem d_J_tastes_57 : decode I_J_tastes.2.1 57 = .ok (.iload_n 2, 1) := by decide +kernel
theorem d_J_tastes_58 : decode I_J_tastes.2.1 58 = .ok (.ireturn, 1) := by decide +kernel
theorem d_J_tells_0 : decode I_J_tells.2.1 0 = .ok (.iload_n 1, 1) := by decide +kernel
theorem d_J_tells_1 : decode I_J_tells.2.1 1 = .ok (.invokestatic 117, 3) := by decide +kernel
theorem d_J_tells_4 : decode I_J_tells.2.1 4 = .ok (.ifCond .eq 14, 3) := by decide +kernel
theorem d_J_tells_7 : decode I_J_tells.2.1 7 = .ok (.aload_n 0, 1) := by decide +kernel
theorem d_J_tells_8 : decode I_J_tells.2.1 8 = .ok (.getfield 12, 3) := by decide +kernel
theorem d_J_tells_11 : decode I_J_tells.2.1 11 = .ok (.iload_n 2, 1) := by decide +kernel
theorem d_J_tells_12 : decode I_J_tells.2.1 12 = .ok (.invokevirtual 101, 3) := by decide +kernel
theorem d_J_tells_15 : decode I_J_tells.2.1 15 = .ok (.ifCond .ne 6, 3) := by decide +kernel
theorem d_J_tells_18 : decode I_J_tells.2.1 18 = .ok (.bipush (-2), 2) := by decide +kernel
theorem d_J_tells_20 : decode I_J_tells.2.1 20 = .ok (.ireturn, 1) := by decide +kernel
theorem d_J_tells_21 : decode I_J_tells.2.1 21 = .ok (.iconst 0, 1) := by decide +kernel
theorem d_J_tells_22 : decode I_J_tells.2.1 22 = .ok (.istore_n 3, 1) := by decide +kernel
theorem d_J_tells_23 : decode I_J_tells.2.1 23 = .ok (.iload_n 3, 1) := by decide +kernel
theorem d_J_tells_24 : decode I_J_tells.2.1 24 = .ok (.aload_n 0, 1) := by decide +kernel
theorem d_J_tells_25 : decode I_J_tells.2.1 25 = .ok (.getfield 85, 3) := by decide +kernel
theorem d_J_tells_28 : decode I_J_tells.2.1 28 = .ok (.arraylength, 1) := by decide +kernel
theorem d_J_tells_29 : decode I_J_tells.2.1 29 = .ok (.if_icmp .ge 16, 3) := by decide +kernel
theorem d_J_tells_32 : decode I_J_tells.2.1 32 = .ok (.aload_n 0, 1) := by decide +kernel
theorem d_J_tells_33 : decode I_J_tells.2.1 33 = .ok (.getfield 85, 3) := by decide +kernel
theorem d_J_tells_36 : decode I_J_tells.2.1 36 = .ok (.iload_n 3, 1) := by decide +kernel
theorem d_J_tells_37 : decode I_J_tells.2.1 37 = .ok (.iconst 0, 1) := by decide +kernel
theorem d_J_tells_38 : decode I_J_tells.2.1 38 = .ok (.iastore, 1) := by decide +kernel
theorem d_J_tells_39 : decode I_J_tells.2.1 39 = .ok (.iinc 3 1, 3) := by decide +kernel
theorem d_J_tells_42 : decode I_J_tells.2.1 42 = .ok (.goto (-19), 3) := by decide +kernel
theorem d_J_tells_45 : decode I_J_tells.2.1 45 = .ok (.iconst 0, 1) := by decide +kernel
theorem d_J_tells_46 : decode I_J_tells.2.1 46 = .ok (.istore_n 3, 1) := by decide +kernel
theorem d_J_tells_47 : decode I_J_tells.2.1 47 = .ok (.iload_n 3, 1) := by decide +kernel
theorem d_J_tells_48 : decode I_J_tells.2.1 48 = .ok (.sipush 1000, 3) := by decide +kernel
theorem d_J_tells_51 : decode I_J_tells.2.1 51 = .ok (.if_icmp .ge 23, 3) := by decide +kernel
theorem d_J_tells_54 : decode I_J_tells.2.1 54 = .ok (.aload_n 0, 1) := by decide +kernel
theorem d_J_tells_55 : decode I_J_tells.2.1 55 = .ok (.iload_n 3, 1) := by decide +kernel
theorem d_J_tells_56 : decode I_J_tells.2.1 56 = .ok (.invokevirtual 210, 3) := by decide +kernel
theorem d_J_tells_59 : decode I_J_tells.2.1 59 = .ok (.ifCond .eq 9, 3) := by decide +kernel
theorem d_J_tells_62 : decode I_J_tells.2.1 62 = .ok (.aload_n 0, 1) := by decide +kernel
theorem d_J_tells_63 : decode I_J_tells.2.1 63 = .ok (.iload_n 1, 1) := by decide +kernel
theorem d_J_tells_64 : decode I_J_tells.2.1 64 = .ok (.iload_n 2, 1) := by decide +kernel
theorem d_J_tells_65 : decode I_J_tells.2.1 65 = .ok (.invokevirtual 213, 3) := by decide +kernel
theorem d_J_tells_68 : decode I_J_tells.2.1 68 = .ok (.iinc 3 1, 3) := by decide +kernel
theorem d_J_tells_71 : decode I_J_tells.2.1 71 = .ok (.goto (-24), 3) := by decide +kernel
theorem d_J_tells_74 : decode I_J_tells.2.1 74 = .ok (.iconst 0, 1) := by decide +kernel
theorem d_J_tells_75 : decode I_J_tells.2.1 75 = .ok (.istore_n 3, 1) := by decide +kernel
theorem d_J_tells_76 : decode I_J_tells.2.1 76 = .ok (.iconst 1, 1) := by decide +kernel
theorem d_J_tells_77 : decode I_J_tells.2.1 77 = .ok (.istore 4, 2) := by decide +kernel
theorem d_J_tells_79 : decode I_J_tells.2.1 79 = .ok (.iload 4, 2) := by decide +kernel
theorem d_J_tells_81 : decode I_J_tells.2.1 81 = .ok (.iconst 3, 1) := by decide +kernel
theorem d_J_tells_82 : decode I_J_tells.2.1 82 = .ok (.if_icmp .ge 26, 3) := by decide +kernel
theorem d_J_tells_85 : decode I_J_tells.2.1 85 = .ok (.aload_n 0, 1) := by decide +kernel
theorem d_J_tells_86 : decode I_J_tells.2.1 86 = .ok (.iload 4, 2) := by decide +kernel
theorem d_J_tells_88 : decode I_J_tells.2.1 88 = .ok (.invokevirtual 216, 3) := by decide +kernel
theorem d_J_tells_91 : decode I_J_tells.2.1 91 = .ok (.aload_n 0, 1) := by decide +kernel
theorem d_J_tells_92 : decode I_J_tells.2.1 92 = .ok (.iload_n 3, 1) := by decide +kernel
theorem d_J_tells_93 : decode I_J_tells.2.1 93 = .ok (.invokevirtual 216, 3) := by decide +kernel
theorem d_J_tells_96 : decode I_J_tells.2.1 96 = .ok (.if_icmp .ge 6, 3) := by decide +kernel
theorem d_J_tells_99 : decode I_J_tells.2.1 99 = .ok (.iload 4, 2) := by decide +kernel
theorem d_J_tells_101 : decode I_J_tells.2.1 101 = .ok (.istore_n 3, 1) := by decide +kernel
theorem d_J_tells_102 : decode I_J_tells.2.1 102 = .ok (.iinc 4 1, 3) := by decide +kernel
theorem d_J_tells_105 : decode I_J_tells.2.1 105 = .ok (.goto (-26), 3) := by decide +kernel
theorem d_J_tells_108 : decode I_J_tells.2.1 108 = .ok (.iload_n 3, 1) := by decide +kernel
theorem d_J_tells_109 : decode I_J_tells.2.1 109 = .ok (.ireturn, 1) := by decide +kernel
theorem d_J_trainer_0 : decode I_J_trainer.2.1 0 = .ok (.iconst 0, 1) := by decide +kernel
theorem d_J_trainer_1 : decode I_J_trainer.2.1 1 = .ok (.istore_n 1, 1) := by decide +kernel
theorem d_J_trainer_2 : decode I_J_trainer.2.1 2 = .ok (.iconst 0, 1) := by decide +kernel
theorem d_J_trainer_3 : decode I_J_trainer.2.1 3 = .ok (.istore_n 2, 1) := by decide +kernel
theorem d_J_trainer_4 : decode I_J_trainer.2.1 4 = .ok (.iload_n 2, 1) := by decide +kernel
theorem d_J_trainer_5 : decode I_J_trainer.2.1 5 = .ok (.aload_n 0, 1) := by decide +kernel
theorem d_J_trainer_6 : decode I_J_trainer.2.1 6 = .ok (.getfield 12, 3) := by decide +kernel
theorem d_J_trainer_9 : decode I_J_trainer.2.1 9 = .ok (.getfield 169, 3) := by decide +kernel
theorem d_J_trainer_12 : decode I_J_trainer.2.1 12 = .ok (.if_icmp .ge 29, 3) := by decide +kernel
theorem d_J_trainer_15 : decode I_J_trainer.2.1 15 = .ok (.aload_n 0, 1) := by decide +kernel
theorem d_J_trainer_16 : decode I_J_trainer.2.1 16 = .ok (.aload_n 0, 1) := by decide +kernel
theorem d_J_trainer_17 : decode I_J_trainer.2.1 17 = .ok (.getfield 28, 3) := by decide +kernel
theorem d_J_trainer_20 : decode I_J_trainer.2.1 20 = .ok (.iconst 0, 1) := by decide +kernel
theorem d_J_trainer_21 : decode I_J_trainer.2.1 21 = .ok (.aaload, 1) := by decide +kernel
theorem d_J_trainer_22 : decode I_J_trainer.2.1 22 = .ok (.iload_n 2, 1) := by decide +kernel
theorem d_J_trainer_23 : decode I_J_trainer.2.1 23 = .ok (.invokevirtual 219, 3) := by decide +kernel
theorem d_J_trainer_26 : decode I_J_trainer.2.1 26 = .ok (.ifCond .eq 9, 3) := by decide +kernel
theorem d_J_trainer_29 : decode I_J_trainer.2.1 29 = .ok (.iload_n 1, 1) := by decide +kernel
theorem d_J_trainer_30 : decode I_J_trainer.2.1 30 = .ok (.iconst 1, 1) := by decide +kernel
theorem d_J_trainer_31 : decode I_J_trainer.2.1 31 = .ok (.iload_n 2, 1) := by decide +kernel
theorem d_J_trainer_32 : decode I_J_trainer.2.1 32 = .ok (.ishl, 1) := by decide +kernel
theorem d_J_trainer_33 : decode I_J_trainer.2.1 33 = .ok (.ior, 1) := by decide +kernel
theorem d_J_trainer_34 : decode I_J_trainer.2.1 34 = .ok (.istore_n 1, 1) := by decide +kernel
theorem d_J_trainer_35 : decode I_J_trainer.2.1 35 = .ok (.iinc 2 1, 3) := by decide +kernel
theorem d_J_trainer_38 : decode I_J_trainer.2.1 38 = .ok (.goto (-34), 3) := by decide +kernel
theorem d_J_trainer_41 : decode I_J_trainer.2.1 41 = .ok (.aload_n 0, 1) := by decide +kernel
theorem d_J_trainer_42 : decode I_J_trainer.2.1 42 = .ok (.aload_n 0, 1) := by decide +kernel
theorem d_J_trainer_43 : decode I_J_trainer.2.1 43 = .ok (.getfield 28, 3) := by decide +kernel
theorem d_J_trainer_46 : decode I_J_trainer.2.1 46 = .ok (.iconst 0, 1) := by decide +kernel
theorem d_J_trainer_47 : decode I_J_trainer.2.1 47 = .ok (.aaload, 1) := by decide +kernel
theorem d_J_trainer_48 : decode I_J_trainer.2.1 48 = .ok (.iconst (-1), 1) := by decide +kernel
theorem d_J_trainer_49 : decode I_J_trainer.2.1 49 = .ok (.invokevirtual 219, 3) := by decide +kernel
theorem d_J_trainer_52 : decode I_J_trainer.2.1 52 = .ok (.ifCond .eq 10, 3) := by decide +kernel
theorem d_J_trainer_55 : decode I_J_trainer.2.1 55 = .ok (.iload_n 1, 1) := by decide +kernel
theorem d_J_trainer_56 : decode I_J_trainer.2.1 56 = .ok (.bipush 64, 2) := by decide +kernel
theorem d_J_trainer_58 : decode I_J_trainer.2.1 58 = .ok (.ior, 1) := by decide +kernel
theorem d_J_trainer_59 : decode I_J_trainer.2.1 59 = .ok (.goto 4, 3) := by decide +kernel
theorem d_J_trainer_62 : decode I_J_trainer.2.1 62 = .ok (.iload_n 1, 1) := by decide +kernel
theorem d_J_trainer_63 : decode I_J_trainer.2.1 63 = .ok (.ireturn, 1) := by decide +kernel
theorem d_J_chance_0 : decode I_J_chance.2.1 0 = .ok (.iload_n 1, 1) := by decide +kernel
theorem d_J_chance_1 : decode I_J_chance.2.1 1 = .ok (.invokestatic 223, 3) := by decide +kernel
theorem d_J_chance_4 : decode I_J_chance.2.1 4 = .ok (.ifCond .eq 29, 3) := by decide +kernel
theorem d_J_chance_7 : decode I_J_chance.2.1 7 = .ok (.aload_n 0, 1) := by decide +kernel
theorem d_J_chance_8 : decode I_J_chance.2.1 8 = .ok (.getfield 12, 3) := by decide +kernel
theorem d_J_chance_11 : decode I_J_chance.2.1 11 = .ok (.iload_n 2, 1) := by decide +kernel
theorem d_J_chance_12 : decode I_J_chance.2.1 12 = .ok (.invokevirtual 101, 3) := by decide +kernel
theorem d_J_chance_15 : decode I_J_chance.2.1 15 = .ok (.ifCond .eq 18, 3) := by decide +kernel
theorem d_J_chance_18 : decode I_J_chance.2.1 18 = .ok (.iload_n 3, 1) := by decide +kernel
theorem d_J_chance_19 : decode I_J_chance.2.1 19 = .ok (.invokestatic 184, 3) := by decide +kernel
theorem d_J_chance_22 : decode I_J_chance.2.1 22 = .ok (.ifCond .eq 11, 3) := by decide +kernel
theorem d_J_chance_25 : decode I_J_chance.2.1 25 = .ok (.iload 4, 2) := by decide +kernel
theorem d_J_chance_27 : decode I_J_chance.2.1 27 = .ok (.invokestatic 162, 3) := by decide +kernel
theorem d_J_chance_30 : decode I_J_chance.2.1 30 = .ok (.ifCond .ne 9, 3) := by decide +kernel
theorem d_J_chance_33 : decode I_J_chance.2.1 33 = .ok (.bipush (-2), 2) := by decide +kernel
theorem d_J_chance_35 : decode I_J_chance.2.1 35 = .ok (.invokestatic 165, 3) := by decide +kernel
theorem d_J_chance_38 : decode I_J_chance.2.1 38 = .ok (.lreturn, 1) := by decide +kernel
theorem d_J_chance_39 : decode I_J_chance.2.1 39 = .ok (.aload_n 0, 1) := by decide +kernel
theorem d_J_chance_40 : decode I_J_chance.2.1 40 = .ok (.getfield 70, 3) := by decide +kernel
theorem d_J_chance_43 : decode I_J_chance.2.1 43 = .ok (.iload_n 1, 1) := by decide +kernel
theorem d_J_chance_44 : decode I_J_chance.2.1 44 = .ok (.iload_n 2, 1) := by decide +kernel
theorem d_J_chance_45 : decode I_J_chance.2.1 45 = .ok (.iload_n 3, 1) := by decide +kernel
theorem d_J_chance_46 : decode I_J_chance.2.1 46 = .ok (.invokevirtual 226, 3) := by decide +kernel
theorem d_J_chance_49 : decode I_J_chance.2.1 49 = .ok (.lconst 1, 1) := by decide +kernel
theorem d_J_chance_50 : decode I_J_chance.2.1 50 = .ok (.lstore 5, 2) := by decide +kernel
theorem d_J_chance_52 : decode I_J_chance.2.1 52 = .ok (.iconst 0, 1) := by decide +kernel
theorem d_J_chance_53 : decode I_J_chance.2.1 53 = .ok (.istore 7, 2) := by decide +kernel
theorem d_J_chance_55 : decode I_J_chance.2.1 55 = .ok (.iload 7, 2) := by decide +kernel
theorem d_J_chance_57 : decode I_J_chance.2.1 57 = .ok (.iload_n 3, 1) := by decide +kernel
theorem d_J_chance_58 : decode I_J_chance.2.1 58 = .ok (.if_icmp .gt 17, 3) := by decide +kernel
theorem d_J_chance_61 : decode I_J_chance.2.1 61 = .ok (.lload 5, 2) := by decide +kernel
theorem d_J_chance_63 : decode I_J_chance.2.1 63 = .ok (.ldc2_w 229, 3) := by decide +kernel
theorem d_J_chance_66 : decode I_J_chance.2.1 66 = .ok (.lmul, 1) := by decide +kernel
theorem d_J_chance_67 : decode I_J_chance.2.1 67 = .ok (.lstore 5, 2) := by decide +kernel
theorem d_J_chance_69 : decode I_J_chance.2.1 69 = .ok (.iinc 7 1, 3) := by decide +kernel
theorem d_J_chance_72 : decode I_J_chance.2.1 72 = .ok (.goto (-17), 3) := by decide +kernel
theorem d_J_chance_75 : decode I_J_chance.2.1 75 = .ok (.aload_n 0, 1) := by decide +kernel
theorem d_J_chance_76 : decode I_J_chance.2.1 76 = .ok (.getfield 70, 3) := by decide +kernel
theorem d_J_chance_79 : decode I_J_chance.2.1 79 = .ok (.aload_n 0, 1) := by decide +kernel
theorem d_J_chance_80 : decode I_J_chance.2.1 80 = .ok (.getfield 28, 3) := by decide +kernel
theorem d_J_chance_83 : decode I_J_chance.2.1 83 = .ok (.iconst 0, 1) := by decide +kernel
theorem d_J_chance_84 : decode I_J_chance.2.1 84 = .ok (.aaload, 1) := by decide +kernel
theorem d_J_chance_85 : decode I_J_chance.2.1 85 = .ok (.iconst (-1), 1) := by decide +kernel
theorem d_J_chance_86 : decode I_J_chance.2.1 86 = .ok (.iconst (-1), 1) := by decide +kernel
theorem d_J_chance_87 : decode I_J_chance.2.1 87 = .ok (.invokevirtual 231, 3) := by decide +kernel
theorem d_J_chance_90 : decode I_J_chance.2.1 90 = .ok (.lload 5, 2) := by decide +kernel
theorem d_J_chance_92 : decode I_J_chance.2.1 92 = .ok (.iload 4, 2) := by decide +kernel
theorem d_J_chance_94 : decode I_J_chance.2.1 94 = .ok (.invokestatic 172, 3) := by decide +kernel
theorem d_J_chance_97 : decode I_J_chance.2.1 97 = .ok (.lreturn, 1) := by decide +kernel
theorem d_J_heard_0 : decode I_J_heard.2.1 0 = .ok (.iload_n 1, 1) := by decide +kernel
theorem d_J_heard_1 : decode I_J_heard.2.1 1 = .ok (.invokestatic 223, 3) := by decide +kernel
theorem d_J_heard_4 : decode I_J_heard.2.1 4 = .ok (.ifCond .eq 29, 3) := by decide +kernel
theorem d_J_heard_7 : decode I_J_heard.2.1 7 = .ok (.aload_n 0, 1) := by decide +kernel
theorem d_J_heard_8 : decode I_J_heard.2.1 8 = .ok (.getfield 12, 3) := by decide +kernel
theorem d_J_heard_11 : decode I_J_heard.2.1 11 = .ok (.iload_n 2, 1) := by decide +kernel
theorem d_J_heard_12 : decode I_J_heard.2.1 12 = .ok (.invokevirtual 101, 3) := by decide +kernel
theorem d_J_heard_15 : decode I_J_heard.2.1 15 = .ok (.ifCond .eq 18, 3) := by decide +kernel
theorem d_J_heard_18 : decode I_J_heard.2.1 18 = .ok (.iload_n 3, 1) := by decide +kernel
theorem d_J_heard_19 : decode I_J_heard.2.1 19 = .ok (.invokestatic 105, 3) := by decide +kernel
theorem d_J_heard_22 : decode I_J_heard.2.1 22 = .ok (.ifCond .eq 11, 3) := by decide +kernel
theorem d_J_heard_25 : decode I_J_heard.2.1 25 = .ok (.iload 4, 2) := by decide +kernel
theorem d_J_heard_27 : decode I_J_heard.2.1 27 = .ok (.invokestatic 184, 3) := by decide +kernel
theorem d_J_heard_30 : decode I_J_heard.2.1 30 = .ok (.ifCond .ne 6, 3) := by decide +kernel
theorem d_J_heard_33 : decode I_J_heard.2.1 33 = .ok (.bipush (-2), 2) := by decide +kernel
theorem d_J_heard_35 : decode I_J_heard.2.1 35 = .ok (.ireturn, 1) := by decide +kernel
theorem d_J_heard_36 : decode I_J_heard.2.1 36 = .ok (.aload_n 0, 1) := by decide +kernel
theorem d_J_heard_37 : decode I_J_heard.2.1 37 = .ok (.getfield 70, 3) := by decide +kernel
theorem d_J_heard_40 : decode I_J_heard.2.1 40 = .ok (.iload_n 1, 1) := by decide +kernel
theorem d_J_heard_41 : decode I_J_heard.2.1 41 = .ok (.iload_n 2, 1) := by decide +kernel
theorem d_J_heard_42 : decode I_J_heard.2.1 42 = .ok (.iload 4, 2) := by decide +kernel
theorem d_J_heard_44 : decode I_J_heard.2.1 44 = .ok (.invokevirtual 226, 3) := by decide +kernel
theorem d_J_heard_47 : decode I_J_heard.2.1 47 = .ok (.iconst 0, 1) := by decide +kernel
theorem d_J_heard_48 : decode I_J_heard.2.1 48 = .ok (.istore 5, 2) := by decide +kernel
theorem d_J_heard_50 : decode I_J_heard.2.1 50 = .ok (.ldc2_w 235, 3) := by decide +kernel
theorem d_J_heard_53 : decode I_J_heard.2.1 53 = .ok (.lstore 6, 2) := by decide +kernel
theorem d_J_heard_55 : decode I_J_heard.2.1 55 = .ok (.iconst 0, 1) := by decide +kernel
theorem d_J_heard_56 : decode I_J_heard.2.1 56 = .ok (.istore 8, 2) := by decide +kernel
theorem d_J_heard_58 : decode I_J_heard.2.1 58 = .ok (.iload 8, 2) := by decide +kernel
theorem d_J_heard_60 : decode I_J_heard.2.1 60 = .ok (.iload 4, 2) := by decide +kernel
theorem d_J_heard_62 : decode I_J_heard.2.1 62 = .ok (.if_icmp .gt 43, 3) := by decide +kernel
theorem d_J_heard_65 : decode I_J_heard.2.1 65 = .ok (.aload_n 0, 1) := by decide +kernel
theorem d_J_heard_66 : decode I_J_heard.2.1 66 = .ok (.getfield 70, 3) := by decide +kernel
theorem d_J_heard_69 : decode I_J_heard.2.1 69 = .ok (.aload_n 0, 1) := by decide +kernel
theorem d_J_heard_70 : decode I_J_heard.2.1 70 = .ok (.getfield 28, 3) := by decide +kernel
theorem d_J_heard_73 : decode I_J_heard.2.1 73 = .ok (.iconst 0, 1) := by decide +kernel
theorem d_J_heard_74 : decode I_J_heard.2.1 74 = .ok (.aaload, 1) := by decide +kernel
theorem d_J_heard_75 : decode I_J_heard.2.1 75 = .ok (.iload 8, 2) := by decide +kernel
theorem d_J_heard_77 : decode I_J_heard.2.1 77 = .ok (.iload_n 3, 1) := by decide +kernel
theorem d_J_heard_78 : decode I_J_heard.2.1 78 = .ok (.invokevirtual 231, 3) := by decide +kernel
theorem d_J_heard_81 : decode I_J_heard.2.1 81 = .ok (.lstore 9, 2) := by decide +kernel
theorem d_J_heard_83 : decode I_J_heard.2.1 83 = .ok (.lload 9, 2) := by decide +kernel
theorem d_J_heard_85 : decode I_J_heard.2.1 85 = .ok (.lload 6, 2) := by decide +kernel
theorem d_J_heard_87 : decode I_J_heard.2.1 87 = .ok (.lcmp, 1) := by decide +kernel
theorem d_J_heard_88 : decode I_J_heard.2.1 88 = .ok (.ifCond .le 11, 3) := by decide +kernel
theorem d_J_heard_91 : decode I_J_heard.2.1 91 = .ok (.lload 9, 2) := by decide +kernel
theorem d_J_heard_93 : decode I_J_heard.2.1 93 = .ok (.lstore 6, 2) := by decide +kernel
theorem d_J_heard_95 : decode I_J_heard.2.1 95 = .ok (.iload 8, 2) := by decide +kernel
theorem d_J_heard_97 : decode I_J_heard.2.1 97 = .ok (.istore 5, 2) := by decide +kernel
theorem d_J_heard_99 : decode I_J_heard.2.1 99 = .ok (.iinc 8 1, 3) := by decide +kernel
theorem d_J_heard_102 : decode I_J_heard.2.1 102 = .ok (.goto (-44), 3) := by decide +kernel
theorem d_J_heard_105 : decode I_J_heard.2.1 105 = .ok (.iload 5, 2) := by decide +kernel
theorem d_J_heard_107 : decode I_J_heard.2.1 107 = .ok (.ireturn, 1) := by decide +kernel
theorem d_J_weeks_0 : decode I_J_weeks.2.1 0 = .ok (.iload_n 2, 1) := by decide +kernel
theorem d_J_weeks_1 : decode I_J_weeks.2.1 1 = .ok (.iconst 1, 1) := by decide +kernel
theorem d_J_weeks_2 : decode I_J_weeks.2.1 2 = .ok (.if_icmp .lt 25, 3) := by decide +kernel
theorem d_J_weeks_5 : decode I_J_weeks.2.1 5 = .ok (.iload_n 2, 1) := by decide +kernel
theorem d_J_weeks_6 : decode I_J_weeks.2.1 6 = .ok (.bipush 30, 2) := by decide +kernel
theorem d_J_weeks_8 : decode I_J_weeks.2.1 8 = .ok (.if_icmp .gt 19, 3) := by decide +kernel
theorem d_J_weeks_11 : decode I_J_weeks.2.1 11 = .ok (.iload_n 3, 1) := by decide +kernel
theorem d_J_weeks_12 : decode I_J_weeks.2.1 12 = .ok (.iconst (-1), 1) := by decide +kernel
theorem d_J_weeks_13 : decode I_J_weeks.2.1 13 = .ok (.if_icmp .eq 17, 3) := by decide +kernel
theorem d_J_weeks_16 : decode I_J_weeks.2.1 16 = .ok (.aload_n 0, 1) := by decide +kernel
theorem d_J_weeks_17 : decode I_J_weeks.2.1 17 = .ok (.getfield 12, 3) := by decide +kernel
theorem d_J_weeks_20 : decode I_J_weeks.2.1 20 = .ok (.iload_n 3, 1) := by decide +kernel
theorem d_J_weeks_21 : decode I_J_weeks.2.1 21 = .ok (.invokevirtual 101, 3) := by decide +kernel
theorem d_J_weeks_24 : decode I_J_weeks.2.1 24 = .ok (.ifCond .ne 6, 3) := by decide +kernel
theorem d_J_weeks_27 : decode I_J_weeks.2.1 27 = .ok (.bipush (-2), 2) := by decide +kernel
theorem d_J_weeks_29 : decode I_J_weeks.2.1 29 = .ok (.ireturn, 1) := by decide +kernel
theorem d_J_weeks_30 : decode I_J_weeks.2.1 30 = .ok (.aload_n 0, 1) := by decide +kernel
theorem d_J_weeks_31 : decode I_J_weeks.2.1 31 = .ok (.getfield 40, 3) := by decide +kernel
theorem d_J_weeks_34 : decode I_J_weeks.2.1 34 = .ok (.getfield 237, 3) := by decide +kernel
theorem d_J_weeks_37 : decode I_J_weeks.2.1 37 = .ok (.iconst 0, 1) := by decide +kernel
theorem d_J_weeks_38 : decode I_J_weeks.2.1 38 = .ok (.aaload, 1) := by decide +kernel
theorem d_J_weeks_39 : decode I_J_weeks.2.1 39 = .ok (.astore 4, 2) := by decide +kernel
theorem d_J_weeks_41 : decode I_J_weeks.2.1 41 = .ok (.aload 4, 2) := by decide +kernel
theorem d_J_weeks_43 : decode I_J_weeks.2.1 43 = .ok (.aload_n 0, 1) := by decide +kernel
theorem d_J_weeks_44 : decode I_J_weeks.2.1 44 = .ok (.getfield 28, 3) := by decide +kernel
theorem d_J_weeks_47 : decode I_J_weeks.2.1 47 = .ok (.iconst 0, 1) := by decide +kernel
theorem d_J_weeks_48 : decode I_J_weeks.2.1 48 = .ok (.aaload, 1) := by decide +kernel
theorem d_J_weeks_49 : decode I_J_weeks.2.1 49 = .ok (.iconst (-1), 1) := by decide +kernel
theorem d_J_weeks_50 : decode I_J_weeks.2.1 50 = .ok (.invokevirtual 241, 3) := by decide +kernel
theorem d_J_weeks_53 : decode I_J_weeks.2.1 53 = .ok (.iload_n 1, 1) := by decide +kernel
theorem d_J_weeks_54 : decode I_J_weeks.2.1 54 = .ok (.istore 5, 2) := by decide +kernel
theorem d_J_weeks_56 : decode I_J_weeks.2.1 56 = .ok (.iconst 0, 1) := by decide +kernel
theorem d_J_weeks_57 : decode I_J_weeks.2.1 57 = .ok (.istore 6, 2) := by decide +kernel
theorem d_J_weeks_59 : decode I_J_weeks.2.1 59 = .ok (.iconst 0, 1) := by decide +kernel
theorem d_J_weeks_60 : decode I_J_weeks.2.1 60 = .ok (.istore 7, 2) := by decide +kernel
theorem d_J_weeks_62 : decode I_J_weeks.2.1 62 = .ok (.iload 7, 2) := by decide +kernel
theorem d_J_weeks_64 : decode I_J_weeks.2.1 64 = .ok (.iload_n 2, 1) := by decide +kernel
theorem d_J_weeks_65 : decode I_J_weeks.2.1 65 = .ok (.if_icmp .ge 121, 3) := by decide +kernel
theorem d_J_weeks_68 : decode I_J_weeks.2.1 68 = .ok (.aload_n 0, 1) := by decide +kernel
theorem d_J_weeks_69 : decode I_J_weeks.2.1 69 = .ok (.getfield 40, 3) := by decide +kernel
theorem d_J_weeks_72 : decode I_J_weeks.2.1 72 = .ok (.iload 7, 2) := by decide +kernel
theorem d_J_weeks_74 : decode I_J_weeks.2.1 74 = .ok (.invokevirtual 245, 3) := by decide +kernel
theorem d_J_weeks_77 : decode I_J_weeks.2.1 77 = .ok (.istore 8, 2) := by decide +kernel
theorem d_J_weeks_79 : decode I_J_weeks.2.1 79 = .ok (.iload 8, 2) := by decide +kernel
theorem d_J_weeks_81 : decode I_J_weeks.2.1 81 = .ok (.ifCond .eq 14, 3) := by decide +kernel
theorem d_J_weeks_84 : decode I_J_weeks.2.1 84 = .ok (.aload_n 0, 1) := by decide +kernel
theorem d_J_weeks_85 : decode I_J_weeks.2.1 85 = .ok (.getfield 40, 3) := by decide +kernel
theorem d_J_weeks_88 : decode I_J_weeks.2.1 88 = .ok (.aload 4, 2) := by decide +kernel
theorem d_J_weeks_90 : decode I_J_weeks.2.1 90 = .ok (.iload 7, 2) := by decide +kernel
theorem d_J_weeks_92 : decode I_J_weeks.2.1 92 = .ok (.invokevirtual 248, 3) := by decide +kernel
theorem d_J_weeks_95 : decode I_J_weeks.2.1 95 = .ok (.aload_n 0, 1) := by decide +kernel
theorem d_J_weeks_96 : decode I_J_weeks.2.1 96 = .ok (.getfield 12, 3) := by decide +kernel
theorem d_J_weeks_99 : decode I_J_weeks.2.1 99 = .ok (.getfield 169, 3) := by decide +kernel
theorem d_J_weeks_102 : decode I_J_weeks.2.1 102 = .ok (.ifCond .le 57, 3) := by decide +kernel
theorem d_J_weeks_105 : decode I_J_weeks.2.1 105 = .ok (.iload 5, 2) := by decide +kernel
theorem d_J_weeks_107 : decode I_J_weeks.2.1 107 = .ok (.invokestatic 252, 3) := by decide +kernel
theorem d_J_weeks_110 : decode I_J_weeks.2.1 110 = .ok (.istore 5, 2) := by decide +kernel
theorem d_J_weeks_112 : decode I_J_weeks.2.1 112 = .ok (.iload 5, 2) := by decide +kernel
theorem d_J_weeks_114 : decode I_J_weeks.2.1 114 = .ok (.bipush 16, 2) := by decide +kernel
theorem d_J_weeks_116 : decode I_J_weeks.2.1 116 = .ok (.iushr, 1) := by decide +kernel
theorem d_J_weeks_117 : decode I_J_weeks.2.1 117 = .ok (.aload_n 0, 1) := by decide +kernel
theorem d_J_weeks_118 : decode I_J_weeks.2.1 118 = .ok (.getfield 12, 3) := by decide +kernel
theorem d_J_weeks_121 : decode I_J_weeks.2.1 121 = .ok (.getfield 169, 3) := by decide +kernel
theorem d_J_weeks_124 : decode I_J_weeks.2.1 124 = .ok (.irem, 1) := by decide +kernel
theorem d_J_weeks_125 : decode I_J_weeks.2.1 125 = .ok (.istore 9, 2) := by decide +kernel
theorem d_J_weeks_127 : decode I_J_weeks.2.1 127 = .ok (.iload 5, 2) := by decide +kernel
theorem d_J_weeks_129 : decode I_J_weeks.2.1 129 = .ok (.invokestatic 252, 3) := by decide +kernel
theorem d_J_weeks_132 : decode I_J_weeks.2.1 132 = .ok (.istore 5, 2) := by decide +kernel
theorem d_J_weeks_134 : decode I_J_weeks.2.1 134 = .ok (.iload 8, 2) := by decide +kernel
theorem d_J_weeks_136 : decode I_J_weeks.2.1 136 = .ok (.ifCond .eq 23, 3) := by decide +kernel
theorem d_J_weeks_139 : decode I_J_weeks.2.1 139 = .ok (.aload_n 0, 1) := by decide +kernel
theorem d_J_weeks_140 : decode I_J_weeks.2.1 140 = .ok (.getfield 40, 3) := by decide +kernel
theorem d_J_weeks_143 : decode I_J_weeks.2.1 143 = .ok (.aload 4, 2) := by decide +kernel
theorem d_J_weeks_145 : decode I_J_weeks.2.1 145 = .ok (.iload 7, 2) := by decide +kernel
theorem d_J_weeks_147 : decode I_J_weeks.2.1 147 = .ok (.iload 9, 2) := by decide +kernel
theorem d_J_weeks_149 : decode I_J_weeks.2.1 149 = .ok (.iload 5, 2) := by decide +kernel
theorem d_J_weeks_151 : decode I_J_weeks.2.1 151 = .ok (.bipush 16, 2) := by decide +kernel
theorem d_J_weeks_153 : decode I_J_weeks.2.1 153 = .ok (.iushr, 1) := by decide +kernel
theorem d_J_weeks_154 : decode I_J_weeks.2.1 154 = .ok (.iconst 3, 1) := by decide +kernel
theorem d_J_weeks_155 : decode I_J_weeks.2.1 155 = .ok (.irem, 1) := by decide +kernel
theorem d_J_weeks_156 : decode I_J_weeks.2.1 156 = .ok (.invokevirtual 255, 3) := by decide +kernel
theorem d_J_weeks_159 : decode I_J_weeks.2.1 159 = .ok (.aload_n 0, 1) := by decide +kernel
theorem d_J_weeks_160 : decode I_J_weeks.2.1 160 = .ok (.getfield 40, 3) := by decide +kernel
theorem d_J_weeks_163 : decode I_J_weeks.2.1 163 = .ok (.aload 4, 2) := by decide +kernel
theorem d_J_weeks_165 : decode I_J_weeks.2.1 165 = .ok (.invokevirtual 259, 3) := by decide +kernel
theorem d_J_weeks_168 : decode I_J_weeks.2.1 168 = .ok (.aload 4, 2) := by decide +kernel
theorem d_J_weeks_170 : decode I_J_weeks.2.1 170 = .ok (.getfield 159, 3) := by decide +kernel
theorem d_J_weeks_173 : decode I_J_weeks.2.1 173 = .ok (.iload_n 3, 1) := by decide +kernel
theorem d_J_weeks_174 : decode I_J_weeks.2.1 174 = .ok (.if_icmp .ne 6, 3) := by decide +kernel
theorem d_J_weeks_177 : decode I_J_weeks.2.1 177 = .ok (.iinc 6 1, 3) := by decide +kernel
theorem d_J_weeks_180 : decode I_J_weeks.2.1 180 = .ok (.iinc 7 1, 3) := by decide +kernel
theorem d_J_weeks_183 : decode I_J_weeks.2.1 183 = .ok (.goto (-121), 3) := by decide +kernel
theorem d_J_weeks_186 : decode I_J_weeks.2.1 186 = .ok (.iload_n 3, 1) := by decide +kernel
theorem d_J_weeks_187 : decode I_J_weeks.2.1 187 = .ok (.iconst (-1), 1) := by decide +kernel
theorem d_J_weeks_188 : decode I_J_weeks.2.1 188 = .ok (.if_icmp .ne 11, 3) := by decide +kernel
theorem d_J_weeks_191 : decode I_J_weeks.2.1 191 = .ok (.aload 4, 2) := by decide +kernel
theorem d_J_weeks_193 : decode I_J_weeks.2.1 193 = .ok (.getfield 159, 3) := by decide +kernel
theorem d_J_weeks_196 : decode I_J_weeks.2.1 196 = .ok (.goto 5, 3) := by decide +kernel
theorem d_J_weeks_199 : decode I_J_weeks.2.1 199 = .ok (.iload 6, 2) := by decide +kernel
theorem d_J_weeks_201 : decode I_J_weeks.2.1 201 = .ok (.ireturn, 1) := by decide +kernel
theorem d_J_sheet_0 : decode I_J_sheet.2.1 0 = .ok (.aload_n 0, 1) := by decide +kernel
theorem d_J_sheet_1 : decode I_J_sheet.2.1 1 = .ok (.getfield 77, 3) := by decide +kernel
theorem d_J_sheet_4 : decode I_J_sheet.2.1 4 = .ok (.iload_n 1, 1) := by decide +kernel
theorem d_J_sheet_5 : decode I_J_sheet.2.1 5 = .ok (.invokevirtual 130, 3) := by decide +kernel
theorem d_J_sheet_8 : decode I_J_sheet.2.1 8 = .ok (.ifCond .eq 20, 3) := by decide +kernel
theorem d_J_sheet_11 : decode I_J_sheet.2.1 11 = .ok (.aload_n 0, 1) := by decide +kernel
theorem d_J_sheet_12 : decode I_J_sheet.2.1 12 = .ok (.getfield 77, 3) := by decide +kernel
theorem d_J_sheet_15 : decode I_J_sheet.2.1 15 = .ok (.iload_n 2, 1) := by decide +kernel
theorem d_J_sheet_16 : decode I_J_sheet.2.1 16 = .ok (.invokevirtual 263, 3) := by decide +kernel
theorem d_J_sheet_19 : decode I_J_sheet.2.1 19 = .ok (.ifCond .eq 9, 3) := by decide +kernel
theorem d_J_sheet_22 : decode I_J_sheet.2.1 22 = .ok (.iload_n 3, 1) := by decide +kernel
theorem d_J_sheet_23 : decode I_J_sheet.2.1 23 = .ok (.bipush 48, 2) := by decide +kernel
theorem d_J_sheet_25 : decode I_J_sheet.2.1 25 = .ok (.if_icmp .le 6, 3) := by decide +kernel
theorem d_J_sheet_28 : decode I_J_sheet.2.1 28 = .ok (.bipush (-2), 2) := by decide +kernel
theorem d_J_sheet_30 : decode I_J_sheet.2.1 30 = .ok (.ireturn, 1) := by decide +kernel
theorem d_J_sheet_31 : decode I_J_sheet.2.1 31 = .ok (.iload_n 3, 1) := by decide +kernel
theorem d_J_sheet_32 : decode I_J_sheet.2.1 32 = .ok (.ifCond .ge 12, 3) := by decide +kernel
theorem d_J_sheet_35 : decode I_J_sheet.2.1 35 = .ok (.aload_n 0, 1) := by decide +kernel
theorem d_J_sheet_36 : decode I_J_sheet.2.1 36 = .ok (.getfield 77, 3) := by decide +kernel
theorem d_J_sheet_39 : decode I_J_sheet.2.1 39 = .ok (.iconst 5, 1) := by decide +kernel
theorem d_J_sheet_40 : decode I_J_sheet.2.1 40 = .ok (.invokevirtual 136, 3) := by decide +kernel
theorem d_J_sheet_43 : decode I_J_sheet.2.1 43 = .ok (.ireturn, 1) := by decide +kernel
theorem d_J_sheet_44 : decode I_J_sheet.2.1 44 = .ok (.aload_n 0, 1) := by decide +kernel
theorem d_J_sheet_45 : decode I_J_sheet.2.1 45 = .ok (.getfield 77, 3) := by decide +kernel
theorem d_J_sheet_48 : decode I_J_sheet.2.1 48 = .ok (.iload_n 1, 1) := by decide +kernel
theorem d_J_sheet_49 : decode I_J_sheet.2.1 49 = .ok (.iload_n 2, 1) := by decide +kernel
theorem d_J_sheet_50 : decode I_J_sheet.2.1 50 = .ok (.iload_n 3, 1) := by decide +kernel
theorem d_J_sheet_51 : decode I_J_sheet.2.1 51 = .ok (.invokevirtual 266, 3) := by decide +kernel
theorem d_J_sheet_54 : decode I_J_sheet.2.1 54 = .ok (.iload_n 3, 1) := by decide +kernel
theorem d_J_sheet_55 : decode I_J_sheet.2.1 55 = .ok (.ireturn, 1) := by decide +kernel
theorem d_J_lose_0 : decode I_J_lose.2.1 0 = .ok (.aload_n 0, 1) := by decide +kernel
theorem d_J_lose_1 : decode I_J_lose.2.1 1 = .ok (.getfield 77, 3) := by decide +kernel
theorem d_J_lose_4 : decode I_J_lose.2.1 4 = .ok (.iload_n 1, 1) := by decide +kernel
theorem d_J_lose_5 : decode I_J_lose.2.1 5 = .ok (.invokevirtual 130, 3) := by decide +kernel
theorem d_J_lose_8 : decode I_J_lose.2.1 8 = .ok (.ifCond .ne 6, 3) := by decide +kernel
theorem d_J_lose_11 : decode I_J_lose.2.1 11 = .ok (.bipush (-2), 2) := by decide +kernel
theorem d_J_lose_13 : decode I_J_lose.2.1 13 = .ok (.ireturn, 1) := by decide +kernel
theorem d_J_lose_14 : decode I_J_lose.2.1 14 = .ok (.aload_n 0, 1) := by decide +kernel
theorem d_J_lose_15 : decode I_J_lose.2.1 15 = .ok (.getfield 77, 3) := by decide +kernel
theorem d_J_lose_18 : decode I_J_lose.2.1 18 = .ok (.iload_n 1, 1) := by decide +kernel
theorem d_J_lose_19 : decode I_J_lose.2.1 19 = .ok (.invokevirtual 133, 3) := by decide +kernel
theorem d_J_lose_22 : decode I_J_lose.2.1 22 = .ok (.ifCond .eq 12, 3) := by decide +kernel
theorem d_J_lose_25 : decode I_J_lose.2.1 25 = .ok (.aload_n 0, 1) := by decide +kernel
theorem d_J_lose_26 : decode I_J_lose.2.1 26 = .ok (.getfield 77, 3) := by decide +kernel
theorem d_J_lose_29 : decode I_J_lose.2.1 29 = .ok (.iconst 1, 1) := by decide +kernel
theorem d_J_lose_30 : decode I_J_lose.2.1 30 = .ok (.invokevirtual 136, 3) := by decide +kernel
theorem d_J_lose_33 : decode I_J_lose.2.1 33 = .ok (.ireturn, 1) := by decide +kernel
theorem d_J_lose_34 : decode I_J_lose.2.1 34 = .ok (.aload_n 0, 1) := by decide +kernel
theorem d_J_lose_35 : decode I_J_lose.2.1 35 = .ok (.getfield 77, 3) := by decide +kernel
theorem d_J_lose_38 : decode I_J_lose.2.1 38 = .ok (.getfield 269, 3) := by decide +kernel
theorem d_J_lose_41 : decode I_J_lose.2.1 41 = .ok (.iload_n 1, 1) := by decide +kernel
theorem d_J_lose_42 : decode I_J_lose.2.1 42 = .ok (.iconst (-1), 1) := by decide +kernel
theorem d_J_lose_43 : decode I_J_lose.2.1 43 = .ok (.iastore, 1) := by decide +kernel
theorem d_J_lose_44 : decode I_J_lose.2.1 44 = .ok (.aload_n 0, 1) := by decide +kernel
theorem d_J_lose_45 : decode I_J_lose.2.1 45 = .ok (.getfield 77, 3) := by decide +kernel
theorem d_J_lose_48 : decode I_J_lose.2.1 48 = .ok (.getfield 143, 3) := by decide +kernel
theorem d_J_lose_51 : decode I_J_lose.2.1 51 = .ok (.iload_n 1, 1) := by decide +kernel
theorem d_J_lose_52 : decode I_J_lose.2.1 52 = .ok (.iaload, 1) := by decide +kernel
theorem d_J_lose_53 : decode I_J_lose.2.1 53 = .ok (.ireturn, 1) := by decide +kernel
theorem d_J_put_0 : decode I_J_put.2.1 0 = .ok (.aload_n 0, 1) := by decide +kernel
theorem d_J_put_1 : decode I_J_put.2.1 1 = .ok (.getfield 77, 3) := by decide +kernel
theorem d_J_put_4 : decode I_J_put.2.1 4 = .ok (.iload_n 1, 1) := by decide +kernel
theorem d_J_put_5 : decode I_J_put.2.1 5 = .ok (.invokevirtual 130, 3) := by decide +kernel
theorem d_J_put_8 : decode I_J_put.2.1 8 = .ok (.ifCond .eq 14, 3) := by decide +kernel
theorem d_J_put_11 : decode I_J_put.2.1 11 = .ok (.aload_n 0, 1) := by decide +kernel
theorem d_J_put_12 : decode I_J_put.2.1 12 = .ok (.getfield 77, 3) := by decide +kernel
theorem d_J_put_15 : decode I_J_put.2.1 15 = .ok (.iload_n 2, 1) := by decide +kernel
theorem d_J_put_16 : decode I_J_put.2.1 16 = .ok (.invokevirtual 263, 3) := by decide +kernel
theorem d_J_put_19 : decode I_J_put.2.1 19 = .ok (.ifCond .ne 6, 3) := by decide +kernel
theorem d_J_put_22 : decode I_J_put.2.1 22 = .ok (.bipush (-2), 2) := by decide +kernel
theorem d_J_put_24 : decode I_J_put.2.1 24 = .ok (.ireturn, 1) := by decide +kernel
theorem d_J_put_25 : decode I_J_put.2.1 25 = .ok (.aload_n 0, 1) := by decide +kernel
theorem d_J_put_26 : decode I_J_put.2.1 26 = .ok (.getfield 77, 3) := by decide +kernel
theorem d_J_put_29 : decode I_J_put.2.1 29 = .ok (.iload_n 1, 1) := by decide +kernel
theorem d_J_put_30 : decode I_J_put.2.1 30 = .ok (.iload_n 2, 1) := by decide +kernel
theorem d_J_put_31 : decode I_J_put.2.1 31 = .ok (.iload_n 3, 1) := by decide +kernel
theorem d_J_put_32 : decode I_J_put.2.1 32 = .ok (.invokevirtual 272, 3) := by decide +kernel
theorem d_J_put_35 : decode I_J_put.2.1 35 = .ok (.istore 5, 2) := by decide +kernel
theorem d_J_put_37 : decode I_J_put.2.1 37 = .ok (.iload 5, 2) := by decide +kernel
theorem d_J_put_39 : decode I_J_put.2.1 39 = .ok (.ifCond .eq 13, 3) := by decide +kernel
theorem d_J_put_42 : decode I_J_put.2.1 42 = .ok (.aload_n 0, 1) := by decide +kernel
theorem d_J_put_43 : decode I_J_put.2.1 43 = .ok (.getfield 77, 3) := by decide +kernel
theorem d_J_put_46 : decode I_J_put.2.1 46 = .ok (.iload 5, 2) := by decide +kernel
theorem d_J_put_48 : decode I_J_put.2.1 48 = .ok (.invokevirtual 136, 3) := by decide +kernel
theorem d_J_put_51 : decode I_J_put.2.1 51 = .ok (.ireturn, 1) := by decide +kernel
theorem d_J_put_52 : decode I_J_put.2.1 52 = .ok (.aload_n 0, 1) := by decide +kernel
theorem d_J_put_53 : decode I_J_put.2.1 53 = .ok (.getfield 77, 3) := by decide +kernel
theorem d_J_put_56 : decode I_J_put.2.1 56 = .ok (.getfield 140, 3) := by decide +kernel
theorem d_J_put_59 : decode I_J_put.2.1 59 = .ok (.iload_n 1, 1) := by decide +kernel
theorem d_J_put_60 : decode I_J_put.2.1 60 = .ok (.aaload, 1) := by decide +kernel
theorem d_J_put_61 : decode I_J_put.2.1 61 = .ok (.iload_n 3, 1) := by decide +kernel
theorem d_J_put_62 : decode I_J_put.2.1 62 = .ok (.aload_n 0, 1) := by decide +kernel
theorem d_J_put_63 : decode I_J_put.2.1 63 = .ok (.getfield 77, 3) := by decide +kernel
theorem d_J_put_66 : decode I_J_put.2.1 66 = .ok (.iload_n 2, 1) := by decide +kernel
theorem d_J_put_67 : decode I_J_put.2.1 67 = .ok (.iload 4, 2) := by decide +kernel
theorem d_J_put_69 : decode I_J_put.2.1 69 = .ok (.invokevirtual 275, 3) := by decide +kernel
theorem d_J_put_72 : decode I_J_put.2.1 72 = .ok (.iastore, 1) := by decide +kernel
theorem d_J_put_73 : decode I_J_put.2.1 73 = .ok (.iconst 1, 1) := by decide +kernel
theorem d_J_put_74 : decode I_J_put.2.1 74 = .ok (.ireturn, 1) := by decide +kernel
theorem d_J_get_0 : decode I_J_get.2.1 0 = .ok (.aload_n 0, 1) := by decide +kernel
theorem d_J_get_1 : decode I_J_get.2.1 1 = .ok (.getfield 77, 3) := by decide +kernel
theorem d_J_get_4 : decode I_J_get.2.1 4 = .ok (.iload_n 1, 1) := by decide +kernel
theorem d_J_get_5 : decode I_J_get.2.1 5 = .ok (.invokevirtual 130, 3) := by decide +kernel
theorem d_J_get_8 : decode I_J_get.2.1 8 = .ok (.ifCond .eq 14, 3) := by decide +kernel
theorem d_J_get_11 : decode I_J_get.2.1 11 = .ok (.aload_n 0, 1) := by decide +kernel
theorem d_J_get_12 : decode I_J_get.2.1 12 = .ok (.getfield 77, 3) := by decide +kernel
theorem d_J_get_15 : decode I_J_get.2.1 15 = .ok (.iload_n 2, 1) := by decide +kernel
theorem d_J_get_16 : decode I_J_get.2.1 16 = .ok (.invokevirtual 263, 3) := by decide +kernel
theorem d_J_get_19 : decode I_J_get.2.1 19 = .ok (.ifCond .ne 7, 3) := by decide +kernel
theorem d_J_get_22 : decode I_J_get.2.1 22 = .ok (.ldc_w 281, 3) := by decide +kernel
theorem d_J_get_25 : decode I_J_get.2.1 25 = .ok (.ireturn, 1) := by decide +kernel
theorem d_J_get_26 : decode I_J_get.2.1 26 = .ok (.aload_n 0, 1) := by decide +kernel
theorem d_J_get_27 : decode I_J_get.2.1 27 = .ok (.getfield 77, 3) := by decide +kernel
theorem d_J_get_30 : decode I_J_get.2.1 30 = .ok (.iload_n 1, 1) := by decide +kernel
theorem d_J_get_31 : decode I_J_get.2.1 31 = .ok (.iload_n 2, 1) := by decide +kernel
theorem d_J_get_32 : decode I_J_get.2.1 32 = .ok (.iload_n 3, 1) := by decide +kernel
theorem d_J_get_33 : decode I_J_get.2.1 33 = .ok (.invokevirtual 272, 3) := by decide +kernel
theorem d_J_get_36 : decode I_J_get.2.1 36 = .ok (.istore 4, 2) := by decide +kernel
theorem d_J_get_38 : decode I_J_get.2.1 38 = .ok (.iload 4, 2) := by decide +kernel
theorem d_J_get_40 : decode I_J_get.2.1 40 = .ok (.ifCond .eq 17, 3) := by decide +kernel
theorem d_J_get_43 : decode I_J_get.2.1 43 = .ok (.aload_n 0, 1) := by decide +kernel
theorem d_J_get_44 : decode I_J_get.2.1 44 = .ok (.getfield 77, 3) := by decide +kernel
theorem d_J_get_47 : decode I_J_get.2.1 47 = .ok (.iload 4, 2) := by decide +kernel
theorem d_J_get_49 : decode I_J_get.2.1 49 = .ok (.invokevirtual 136, 3) := by decide +kernel
theorem d_J_get_52 : decode I_J_get.2.1 52 = .ok (.pop, 1) := by decide +kernel
theorem d_J_get_53 : decode I_J_get.2.1 53 = .ok (.ldc_w 281, 3) := by decide +kernel
theorem d_J_get_56 : decode I_J_get.2.1 56 = .ok (.ireturn, 1) := by decide +kernel
theorem d_J_get_57 : decode I_J_get.2.1 57 = .ok (.aload_n 0, 1) := by decide +kernel
theorem d_J_get_58 : decode I_J_get.2.1 58 = .ok (.getfield 77, 3) := by decide +kernel
theorem d_J_get_61 : decode I_J_get.2.1 61 = .ok (.getfield 140, 3) := by decide +kernel
theorem d_J_get_64 : decode I_J_get.2.1 64 = .ok (.iload_n 1, 1) := by decide +kernel
theorem d_J_get_65 : decode I_J_get.2.1 65 = .ok (.aaload, 1) := by decide +kernel
theorem d_J_get_66 : decode I_J_get.2.1 66 = .ok (.iload_n 3, 1) := by decide +kernel
theorem d_J_get_67 : decode I_J_get.2.1 67 = .ok (.iaload, 1) := by decide +kernel
theorem d_J_get_68 : decode I_J_get.2.1 68 = .ok (.ireturn, 1) := by decide +kernel
theorem d_J_copy_0 : decode I_J_copy.2.1 0 = .ok (.aload_n 0, 1) := by decide +kernel
theorem d_J_copy_1 : decode I_J_copy.2.1 1 = .ok (.getfield 77, 3) := by decide +kernel
theorem d_J_copy_4 : decode I_J_copy.2.1 4 = .ok (.iload_n 1, 1) := by decide +kernel
theorem d_J_copy_5 : decode I_J_copy.2.1 5 = .ok (.invokevirtual 130, 3) := by decide +kernel
theorem d_J_copy_8 : decode I_J_copy.2.1 8 = .ok (.ifCond .eq 14, 3) := by decide +kernel
theorem d_J_copy_11 : decode I_J_copy.2.1 11 = .ok (.aload_n 0, 1) := by decide +kernel
theorem d_J_copy_12 : decode I_J_copy.2.1 12 = .ok (.getfield 77, 3) := by decide +kernel
theorem d_J_copy_15 : decode I_J_copy.2.1 15 = .ok (.iload_n 3, 1) := by decide +kernel
theorem d_J_copy_16 : decode I_J_copy.2.1 16 = .ok (.invokevirtual 130, 3) := by decide +kernel
theorem d_J_copy_19 : decode I_J_copy.2.1 19 = .ok (.ifCond .ne 6, 3) := by decide +kernel
theorem d_J_copy_22 : decode I_J_copy.2.1 22 = .ok (.bipush (-2), 2) := by decide +kernel
theorem d_J_copy_24 : decode I_J_copy.2.1 24 = .ok (.ireturn, 1) := by decide +kernel
theorem d_J_copy_25 : decode I_J_copy.2.1 25 = .ok (.aload_n 0, 1) := by decide +kernel
theorem d_J_copy_26 : decode I_J_copy.2.1 26 = .ok (.getfield 77, 3) := by decide +kernel
theorem d_J_copy_29 : decode I_J_copy.2.1 29 = .ok (.iload_n 1, 1) := by decide +kernel
theorem d_J_copy_30 : decode I_J_copy.2.1 30 = .ok (.invokevirtual 133, 3) := by decide +kernel
theorem d_J_copy_33 : decode I_J_copy.2.1 33 = .ok (.ifCond .ne 14, 3) := by decide +kernel
theorem d_J_copy_36 : decode I_J_copy.2.1 36 = .ok (.aload_n 0, 1) := by decide +kernel
theorem d_J_copy_37 : decode I_J_copy.2.1 37 = .ok (.getfield 77, 3) := by decide +kernel
theorem d_J_copy_40 : decode I_J_copy.2.1 40 = .ok (.iload_n 3, 1) := by decide +kernel
theorem d_J_copy_41 : decode I_J_copy.2.1 41 = .ok (.invokevirtual 133, 3) := by decide +kernel
theorem d_J_copy_44 : decode I_J_copy.2.1 44 = .ok (.ifCond .eq 12, 3) := by decide +kernel
theorem d_J_copy_47 : decode I_J_copy.2.1 47 = .ok (.aload_n 0, 1) := by decide +kernel
theorem d_J_copy_48 : decode I_J_copy.2.1 48 = .ok (.getfield 77, 3) := by decide +kernel
theorem d_J_copy_51 : decode I_J_copy.2.1 51 = .ok (.iconst 1, 1) := by decide +kernel
theorem d_J_copy_52 : decode I_J_copy.2.1 52 = .ok (.invokevirtual 136, 3) := by decide +kernel
theorem d_J_copy_55 : decode I_J_copy.2.1 55 = .ok (.ireturn, 1) := by decide +kernel
theorem d_J_copy_56 : decode I_J_copy.2.1 56 = .ok (.aload_n 0, 1) := by decide +kernel
theorem d_J_copy_57 : decode I_J_copy.2.1 57 = .ok (.getfield 77, 3) := by decide +kernel
theorem d_J_copy_60 : decode I_J_copy.2.1 60 = .ok (.getfield 269, 3) := by decide +kernel
theorem d_J_copy_63 : decode I_J_copy.2.1 63 = .ok (.iload_n 1, 1) := by decide +kernel
theorem d_J_copy_64 : decode I_J_copy.2.1 64 = .ok (.iaload, 1) := by decide +kernel
theorem d_J_copy_65 : decode I_J_copy.2.1 65 = .ok (.aload_n 0, 1) := by decide +kernel
theorem d_J_copy_66 : decode I_J_copy.2.1 66 = .ok (.getfield 77, 3) := by decide +kernel
theorem d_J_copy_69 : decode I_J_copy.2.1 69 = .ok (.getfield 269, 3) := by decide +kernel
theorem d_J_copy_72 : decode I_J_copy.2.1 72 = .ok (.iload_n 3, 1) := by decide +kernel
theorem d_J_copy_73 : decode I_J_copy.2.1 73 = .ok (.iaload, 1) := by decide +kernel
theorem d_J_copy_74 : decode I_J_copy.2.1 74 = .ok (.if_icmp .eq 12, 3) := by decide +kernel
theorem d_J_copy_77 : decode I_J_copy.2.1 77 = .ok (.aload_n 0, 1) := by decide +kernel
theorem d_J_copy_78 : decode I_J_copy.2.1 78 = .ok (.getfield 77, 3) := by decide +kernel
theorem d_J_copy_81 : decode I_J_copy.2.1 81 = .ok (.iconst 4, 1) := by decide +kernel
theorem d_J_copy_82 : decode I_J_copy.2.1 82 = .ok (.invokevirtual 136, 3) := by decide +kernel
theorem d_J_copy_85 : decode I_J_copy.2.1 85 = .ok (.ireturn, 1) := by decide +kernel
theorem d_J_copy_86 : decode I_J_copy.2.1 86 = .ok (.aload_n 0, 1) := by decide +kernel
theorem d_J_copy_87 : decode I_J_copy.2.1 87 = .ok (.getfield 77, 3) := by decide +kernel
theorem d_J_copy_90 : decode I_J_copy.2.1 90 = .ok (.iload_n 1, 1) := by decide +kernel
theorem d_J_copy_91 : decode I_J_copy.2.1 91 = .ok (.iload_n 2, 1) := by decide +kernel
theorem d_J_copy_92 : decode I_J_copy.2.1 92 = .ok (.iload 5, 2) := by decide +kernel
theorem d_J_copy_94 : decode I_J_copy.2.1 94 = .ok (.invokevirtual 282, 3) := by decide +kernel
theorem d_J_copy_97 : decode I_J_copy.2.1 97 = .ok (.ifCond .eq 18, 3) := by decide +kernel
theorem d_J_copy_100 : decode I_J_copy.2.1 100 = .ok (.aload_n 0, 1) := by decide +kernel
theorem d_J_copy_101 : decode I_J_copy.2.1 101 = .ok (.getfield 77, 3) := by decide +kernel
theorem d_J_copy_104 : decode I_J_copy.2.1 104 = .ok (.iload_n 3, 1) := by decide +kernel
theorem d_J_copy_105 : decode I_J_copy.2.1 105 = .ok (.iload 4, 2) := by decide +kernel
theorem d_J_copy_107 : decode I_J_copy.2.1 107 = .ok (.iload 5, 2) := by decide +kernel
theorem d_J_copy_109 : decode I_J_copy.2.1 109 = .ok (.invokevirtual 282, 3) := by decide +kernel
theorem d_J_copy_112 : decode I_J_copy.2.1 112 = .ok (.ifCond .ne 12, 3) := by decide +kernel
theorem d_J_copy_115 : decode I_J_copy.2.1 115 = .ok (.aload_n 0, 1) := by decide +kernel
theorem d_J_copy_116 : decode I_J_copy.2.1 116 = .ok (.getfield 77, 3) := by decide +kernel
theorem d_J_copy_119 : decode I_J_copy.2.1 119 = .ok (.iconst 2, 1) := by decide +kernel
theorem d_J_copy_120 : decode I_J_copy.2.1 120 = .ok (.invokevirtual 136, 3) := by decide +kernel
theorem d_J_copy_123 : decode I_J_copy.2.1 123 = .ok (.ireturn, 1) := by decide +kernel
theorem d_J_copy_124 : decode I_J_copy.2.1 124 = .ok (.aload_n 0, 1) := by decide +kernel
theorem d_J_copy_125 : decode I_J_copy.2.1 125 = .ok (.getfield 77, 3) := by decide +kernel
theorem d_J_copy_128 : decode I_J_copy.2.1 128 = .ok (.getfield 140, 3) := by decide +kernel
theorem d_J_copy_131 : decode I_J_copy.2.1 131 = .ok (.iload_n 1, 1) := by decide +kernel
theorem d_J_copy_132 : decode I_J_copy.2.1 132 = .ok (.aaload, 1) := by decide +kernel
theorem d_J_copy_133 : decode I_J_copy.2.1 133 = .ok (.iload_n 2, 1) := by decide +kernel
theorem d_J_copy_134 : decode I_J_copy.2.1 134 = .ok (.aload_n 0, 1) := by decide +kernel
theorem d_J_copy_135 : decode I_J_copy.2.1 135 = .ok (.getfield 77, 3) := by decide +kernel
theorem d_J_copy_138 : decode I_J_copy.2.1 138 = .ok (.getfield 140, 3) := by decide +kernel
theorem d_J_copy_141 : decode I_J_copy.2.1 141 = .ok (.iload_n 3, 1) := by decide +kernel
theorem d_J_copy_142 : decode I_J_copy.2.1 142 = .ok (.aaload, 1) := by decide +kernel
theorem d_J_copy_143 : decode I_J_copy.2.1 143 = .ok (.iload 4, 2) := by decide +kernel
theorem d_J_copy_145 : decode I_J_copy.2.1 145 = .ok (.iload 5, 2) := by decide +kernel
theorem d_J_copy_147 : decode I_J_copy.2.1 147 = .ok (.invokestatic 286, 3) := by decide +kernel
theorem d_J_copy_150 : decode I_J_copy.2.1 150 = .ok (.iconst 1, 1) := by decide +kernel
theorem d_J_copy_151 : decode I_J_copy.2.1 151 = .ok (.ireturn, 1) := by decide +kernel
theorem d_J_write_0 : decode I_J_write.2.1 0 = .ok (.iload_n 1, 1) := by decide +kernel
theorem d_J_write_1 : decode I_J_write.2.1 1 = .ok (.invokestatic 111, 3) := by decide +kernel
theorem d_J_write_4 : decode I_J_write.2.1 4 = .ok (.ifCond .eq 14, 3) := by decide +kernel
theorem d_J_write_7 : decode I_J_write.2.1 7 = .ok (.aload_n 0, 1) := by decide +kernel
theorem d_J_write_8 : decode I_J_write.2.1 8 = .ok (.getfield 77, 3) := by decide +kernel
theorem d_J_write_11 : decode I_J_write.2.1 11 = .ok (.iload_n 2, 1) := by decide +kernel
theorem d_J_write_12 : decode I_J_write.2.1 12 = .ok (.invokevirtual 130, 3) := by decide +kernel
theorem d_J_write_15 : decode I_J_write.2.1 15 = .ok (.ifCond .ne 6, 3) := by decide +kernel
theorem d_J_write_18 : decode I_J_write.2.1 18 = .ok (.bipush (-2), 2) := by decide +kernel
theorem d_J_write_20 : decode I_J_write.2.1 20 = .ok (.ireturn, 1) := by decide +kernel
theorem d_J_write_21 : decode I_J_write.2.1 21 = .ok (.aload_n 0, 1) := by decide +kernel
theorem d_J_write_22 : decode I_J_write.2.1 22 = .ok (.getfield 77, 3) := by decide +kernel
theorem d_J_write_25 : decode I_J_write.2.1 25 = .ok (.iload_n 2, 1) := by decide +kernel
theorem d_J_write_26 : decode I_J_write.2.1 26 = .ok (.invokevirtual 133, 3) := by decide +kernel
theorem d_J_write_29 : decode I_J_write.2.1 29 = .ok (.ifCond .eq 12, 3) := by decide +kernel
theorem d_J_write_32 : decode I_J_write.2.1 32 = .ok (.aload_n 0, 1) := by decide +kernel
theorem d_J_write_33 : decode I_J_write.2.1 33 = .ok (.getfield 77, 3) := by decide +kernel
theorem d_J_write_36 : decode I_J_write.2.1 36 = .ok (.iconst 1, 1) := by decide +kernel
theorem d_J_write_37 : decode I_J_write.2.1 37 = .ok (.invokevirtual 136, 3) := by decide +kernel
theorem d_J_write_40 : decode I_J_write.2.1 40 = .ok (.ireturn, 1) := by decide +kernel
theorem d_J_write_41 : decode I_J_write.2.1 41 = .ok (.aload_n 0, 1) := by decide +kernel
theorem d_J_write_42 : decode I_J_write.2.1 42 = .ok (.iload_n 1, 1) := by decide +kernel
theorem d_J_write_43 : decode I_J_write.2.1 43 = .ok (.invokevirtual 176, 3) := by decide +kernel
theorem d_J_write_46 : decode I_J_write.2.1 46 = .ok (.aload_n 0, 1) := by decide +kernel
theorem d_J_write_47 : decode I_J_write.2.1 47 = .ok (.getfield 77, 3) := by decide +kernel
theorem d_J_write_50 : decode I_J_write.2.1 50 = .ok (.getfield 143, 3) := by decide +kernel
theorem d_J_write_53 : decode I_J_write.2.1 53 = .ok (.iload_n 2, 1) := by decide +kernel
theorem d_J_write_54 : decode I_J_write.2.1 54 = .ok (.iaload, 1) := by decide +kernel
theorem d_J_write_55 : decode I_J_write.2.1 55 = .ok (.bipush 30, 2) := by decide +kernel
theorem d_J_write_57 : decode I_J_write.2.1 57 = .ok (.invokestatic 292, 3) := by decide +kernel
theorem d_J_write_60 : decode I_J_write.2.1 60 = .ok (.istore_n 3, 1) := by decide +kernel
theorem d_J_write_61 : decode I_J_write.2.1 61 = .ok (.iconst 0, 1) := by decide +kernel
theorem d_J_write_62 : decode I_J_write.2.1 62 = .ok (.istore 4, 2) := by decide +kernel
theorem d_J_write_64 : decode I_J_write.2.1 64 = .ok (.iload 4, 2) := by decide +kernel
theorem d_J_write_66 : decode I_J_write.2.1 66 = .ok (.iload_n 3, 1) := by decide +kernel
theorem d_J_write_67 : decode I_J_write.2.1 67 = .ok (.if_icmp .ge 46, 3) := by decide +kernel
theorem d_J_write_70 : decode I_J_write.2.1 70 = .ok (.aload_n 0, 1) := by decide +kernel
theorem d_J_write_71 : decode I_J_write.2.1 71 = .ok (.getfield 77, 3) := by decide +kernel
theorem d_J_write_74 : decode I_J_write.2.1 74 = .ok (.getfield 140, 3) := by decide +kernel
theorem d_J_write_77 : decode I_J_write.2.1 77 = .ok (.iload_n 2, 1) := by decide +kernel
theorem d_J_write_78 : decode I_J_write.2.1 78 = .ok (.aaload, 1) := by decide +kernel
theorem d_J_write_79 : decode I_J_write.2.1 79 = .ok (.iload 4, 2) := by decide +kernel
theorem d_J_write_81 : decode I_J_write.2.1 81 = .ok (.aload_n 0, 1) := by decide +kernel
theorem d_J_write_82 : decode I_J_write.2.1 82 = .ok (.getfield 77, 3) := by decide +kernel
theorem d_J_write_85 : decode I_J_write.2.1 85 = .ok (.aload_n 0, 1) := by decide +kernel
theorem d_J_write_86 : decode I_J_write.2.1 86 = .ok (.getfield 77, 3) := by decide +kernel
theorem d_J_write_89 : decode I_J_write.2.1 89 = .ok (.getfield 269, 3) := by decide +kernel
theorem d_J_write_92 : decode I_J_write.2.1 92 = .ok (.iload_n 2, 1) := by decide +kernel
theorem d_J_write_93 : decode I_J_write.2.1 93 = .ok (.iaload, 1) := by decide +kernel
theorem d_J_write_94 : decode I_J_write.2.1 94 = .ok (.aload_n 0, 1) := by decide +kernel
theorem d_J_write_95 : decode I_J_write.2.1 95 = .ok (.getfield 82, 3) := by decide +kernel
theorem d_J_write_98 : decode I_J_write.2.1 98 = .ok (.iload_n 1, 1) := by decide +kernel
theorem d_J_write_99 : decode I_J_write.2.1 99 = .ok (.aaload, 1) := by decide +kernel
theorem d_J_write_100 : decode I_J_write.2.1 100 = .ok (.iload 4, 2) := by decide +kernel
theorem d_J_write_102 : decode I_J_write.2.1 102 = .ok (.iaload, 1) := by decide +kernel
theorem d_J_write_103 : decode I_J_write.2.1 103 = .ok (.invokevirtual 275, 3) := by decide +kernel
theorem d_J_write_106 : decode I_J_write.2.1 106 = .ok (.iastore, 1) := by decide +kernel
theorem d_J_write_107 : decode I_J_write.2.1 107 = .ok (.iinc 4 1, 3) := by decide +kernel
theorem d_J_write_110 : decode I_J_write.2.1 110 = .ok (.goto (-46), 3) := by decide +kernel
theorem d_J_write_113 : decode I_J_write.2.1 113 = .ok (.iload_n 3, 1) := by decide +kernel
theorem d_J_write_114 : decode I_J_write.2.1 114 = .ok (.ireturn, 1) := by decide +kernel
theorem d_J_count_0 : decode I_J_count.2.1 0 = .ok (.iload_n 1, 1) := by decide +kernel
theorem d_J_count_1 : decode I_J_count.2.1 1 = .ok (.tableswitch 117 0 8 #[51, 59, 67, 75, 80, 88, 95, 102, 109], 51) := by decide +kernel
theorem d_J_count_52 : decode I_J_count.2.1 52 = .ok (.aload_n 0, 1) := by decide +kernel
theorem d_J_count_53 : decode I_J_count.2.1 53 = .ok (.getfield 12, 3) := by decide +kernel
theorem d_J_count_56 : decode I_J_count.2.1 56 = .ok (.getfield 169, 3) := by decide +kernel
theorem d_J_count_59 : decode I_J_count.2.1 59 = .ok (.ireturn, 1) := by decide +kernel
theorem d_J_count_60 : decode I_J_count.2.1 60 = .ok (.aload_n 0, 1) := by decide +kernel
theorem d_J_count_61 : decode I_J_count.2.1 61 = .ok (.getfield 12, 3) := by decide +kernel
theorem d_J_count_64 : decode I_J_count.2.1 64 = .ok (.getfield 88, 3) := by decide +kernel
theorem d_J_count_67 : decode I_J_count.2.1 67 = .ok (.ireturn, 1) := by decide +kernel
theorem d_J_count_68 : decode I_J_count.2.1 68 = .ok (.aload_n 0, 1) := by decide +kernel
theorem d_J_count_69 : decode I_J_count.2.1 69 = .ok (.getfield 19, 3) := by decide +kernel
theorem d_J_count_72 : decode I_J_count.2.1 72 = .ok (.getfield 120, 3) := by decide +kernel
theorem d_J_count_75 : decode I_J_count.2.1 75 = .ok (.ireturn, 1) := by decide +kernel
theorem d_J_count_76 : decode I_J_count.2.1 76 = .ok (.aload_n 0, 1) := by decide +kernel
theorem d_J_count_77 : decode I_J_count.2.1 77 = .ok (.invokevirtual 297, 3) := by decide +kernel
theorem d_J_count_80 : decode I_J_count.2.1 80 = .ok (.ireturn, 1) := by decide +kernel
theorem d_J_count_81 : decode I_J_count.2.1 81 = .ok (.aload_n 0, 1) := by decide +kernel
theorem d_J_count_82 : decode I_J_count.2.1 82 = .ok (.getfield 47, 3) := by decide +kernel
theorem d_J_count_85 : decode I_J_count.2.1 85 = .ok (.getfield 202, 3) := by decide +kernel
theorem d_J_count_88 : decode I_J_count.2.1 88 = .ok (.ireturn, 1) := by decide +kernel
theorem d_J_count_89 : decode I_J_count.2.1 89 = .ok (.aload_n 0, 1) := by decide +kernel
theorem d_J_count_90 : decode I_J_count.2.1 90 = .ok (.getfield 23, 3) := by decide +kernel
theorem d_J_count_93 : decode I_J_count.2.1 93 = .ok (.iconst 0, 1) := by decide +kernel
theorem d_J_count_94 : decode I_J_count.2.1 94 = .ok (.iaload, 1) := by decide +kernel
theorem d_J_count_95 : decode I_J_count.2.1 95 = .ok (.ireturn, 1) := by decide +kernel
theorem d_J_count_96 : decode I_J_count.2.1 96 = .ok (.aload_n 0, 1) := by decide +kernel
theorem d_J_count_97 : decode I_J_count.2.1 97 = .ok (.getfield 23, 3) := by decide +kernel
theorem d_J_count_100 : decode I_J_count.2.1 100 = .ok (.iconst 1, 1) := by decide +kernel
theorem d_J_count_101 : decode I_J_count.2.1 101 = .ok (.iaload, 1) := by decide +kernel
theorem d_J_count_102 : decode I_J_count.2.1 102 = .ok (.ireturn, 1) := by decide +kernel
theorem d_J_count_103 : decode I_J_count.2.1 103 = .ok (.aload_n 0, 1) := by decide +kernel
theorem d_J_count_104 : decode I_J_count.2.1 104 = .ok (.getfield 23, 3) := by decide +kernel
theorem d_J_count_107 : decode I_J_count.2.1 107 = .ok (.iconst 3, 1) := by decide +kernel
theorem d_J_count_108 : decode I_J_count.2.1 108 = .ok (.iaload, 1) := by decide +kernel
theorem d_J_count_109 : decode I_J_count.2.1 109 = .ok (.ireturn, 1) := by decide +kernel
theorem d_J_count_110 : decode I_J_count.2.1 110 = .ok (.aload_n 0, 1) := by decide +kernel
theorem d_J_count_111 : decode I_J_count.2.1 111 = .ok (.getfield 77, 3) := by decide +kernel
theorem d_J_count_114 : decode I_J_count.2.1 114 = .ok (.getfield 301, 3) := by decide +kernel
theorem d_J_count_117 : decode I_J_count.2.1 117 = .ok (.ireturn, 1) := by decide +kernel
theorem d_J_count_118 : decode I_J_count.2.1 118 = .ok (.bipush (-2), 2) := by decide +kernel
theorem d_J_count_120 : decode I_J_count.2.1 120 = .ok (.ireturn, 1) := by decide +kernel
theorem d_J_digest_0 : decode I_J_digest.2.1 0 = .ok (.ldc2_w 304, 3) := by decide +kernel
theorem d_J_digest_3 : decode I_J_digest.2.1 3 = .ok (.lstore_n 1, 1) := by decide +kernel
theorem d_J_digest_4 : decode I_J_digest.2.1 4 = .ok (.iconst 0, 1) := by decide +kernel
theorem d_J_digest_5 : decode I_J_digest.2.1 5 = .ok (.istore_n 3, 1) := by decide +kernel
theorem d_J_digest_6 : decode I_J_digest.2.1 6 = .ok (.iload_n 3, 1) := by decide +kernel
theorem d_J_digest_7 : decode I_J_digest.2.1 7 = .ok (.bipush 7, 2) := by decide +kernel
theorem d_J_digest_9 : decode I_J_digest.2.1 9 = .ok (.if_icmp .gt 20, 3) := by decide +kernel
theorem d_J_digest_12 : decode I_J_digest.2.1 12 = .ok (.lload_n 1, 1) := by decide +kernel
theorem d_J_digest_13 : decode I_J_digest.2.1 13 = .ok (.aload_n 0, 1) := by decide +kernel
theorem d_J_digest_14 : decode I_J_digest.2.1 14 = .ok (.iload_n 3, 1) := by decide +kernel
theorem d_J_digest_15 : decode I_J_digest.2.1 15 = .ok (.invokevirtual 306, 3) := by decide +kernel
theorem d_J_digest_18 : decode I_J_digest.2.1 18 = .ok (.i2l, 1) := by decide +kernel
theorem d_J_digest_19 : decode I_J_digest.2.1 19 = .ok (.invokestatic 309, 3) := by decide +kernel
theorem d_J_digest_22 : decode I_J_digest.2.1 22 = .ok (.lstore_n 1, 1) := by decide +kernel
theorem d_J_digest_23 : decode I_J_digest.2.1 23 = .ok (.iinc 3 1, 3) := by decide +kernel
theorem d_J_digest_26 : decode I_J_digest.2.1 26 = .ok (.goto (-20), 3) := by decide +kernel
theorem d_J_digest_29 : decode I_J_digest.2.1 29 = .ok (.lload_n 1, 1) := by decide +kernel
theorem d_J_digest_30 : decode I_J_digest.2.1 30 = .ok (.aload_n 0, 1) := by decide +kernel
theorem d_J_digest_31 : decode I_J_digest.2.1 31 = .ok (.invokevirtual 313, 3) := by decide +kernel
theorem d_J_digest_34 : decode I_J_digest.2.1 34 = .ok (.i2l, 1) := by decide +kernel
theorem d_J_digest_35 : decode I_J_digest.2.1 35 = .ok (.invokestatic 309, 3) := by decide +kernel
theorem d_J_digest_38 : decode I_J_digest.2.1 38 = .ok (.lstore_n 1, 1) := by decide +kernel
theorem d_J_digest_39 : decode I_J_digest.2.1 39 = .ok (.iconst 0, 1) := by decide +kernel
theorem d_J_digest_40 : decode I_J_digest.2.1 40 = .ok (.istore_n 3, 1) := by decide +kernel
theorem d_J_digest_41 : decode I_J_digest.2.1 41 = .ok (.iload_n 3, 1) := by decide +kernel
theorem d_J_digest_42 : decode I_J_digest.2.1 42 = .ok (.aload_n 0, 1) := by decide +kernel
theorem d_J_digest_43 : decode I_J_digest.2.1 43 = .ok (.getfield 12, 3) := by decide +kernel
theorem d_J_digest_46 : decode I_J_digest.2.1 46 = .ok (.getfield 169, 3) := by decide +kernel
theorem d_J_digest_49 : decode I_J_digest.2.1 49 = .ok (.if_icmp .ge 148, 3) := by decide +kernel
theorem d_J_digest_52 : decode I_J_digest.2.1 52 = .ok (.iconst 0, 1) := by decide +kernel
theorem d_J_digest_53 : decode I_J_digest.2.1 53 = .ok (.istore 4, 2) := by decide +kernel
theorem d_J_digest_55 : decode I_J_digest.2.1 55 = .ok (.iload 4, 2) := by decide +kernel
theorem d_J_digest_57 : decode I_J_digest.2.1 57 = .ok (.iconst 3, 1) := by decide +kernel
theorem d_J_digest_58 : decode I_J_digest.2.1 58 = .ok (.if_icmp .ge 22, 3) := by decide +kernel
theorem d_J_digest_61 : decode I_J_digest.2.1 61 = .ok (.lload_n 1, 1) := by decide +kernel
theorem d_J_digest_62 : decode I_J_digest.2.1 62 = .ok (.aload_n 0, 1) := by decide +kernel
theorem d_J_digest_63 : decode I_J_digest.2.1 63 = .ok (.iload_n 3, 1) := by decide +kernel
theorem d_J_digest_64 : decode I_J_digest.2.1 64 = .ok (.iload 4, 2) := by decide +kernel
theorem d_J_digest_66 : decode I_J_digest.2.1 66 = .ok (.invokevirtual 316, 3) := by decide +kernel
theorem d_J_digest_69 : decode I_J_digest.2.1 69 = .ok (.i2l, 1) := by decide +kernel
theorem d_J_digest_70 : decode I_J_digest.2.1 70 = .ok (.invokestatic 309, 3) := by decide +kernel
theorem d_J_digest_73 : decode I_J_digest.2.1 73 = .ok (.lstore_n 1, 1) := by decide +kernel
theorem d_J_digest_74 : decode I_J_digest.2.1 74 = .ok (.iinc 4 1, 3) := by decide +kernel
theorem d_J_digest_77 : decode I_J_digest.2.1 77 = .ok (.goto (-22), 3) := by decide +kernel
theorem d_J_digest_80 : decode I_J_digest.2.1 80 = .ok (.lload_n 1, 1) := by decide +kernel
theorem d_J_digest_81 : decode I_J_digest.2.1 81 = .ok (.aload_n 0, 1) := by decide +kernel
theorem d_J_digest_82 : decode I_J_digest.2.1 82 = .ok (.iconst 0, 1) := by decide +kernel
theorem d_J_digest_83 : decode I_J_digest.2.1 83 = .ok (.bipush 9, 2) := by decide +kernel
theorem d_J_digest_85 : decode I_J_digest.2.1 85 = .ok (.iload_n 3, 1) := by decide +kernel
theorem d_J_digest_86 : decode I_J_digest.2.1 86 = .ok (.invokevirtual 319, 3) := by decide +kernel
theorem d_J_digest_89 : decode I_J_digest.2.1 89 = .ok (.i2l, 1) := by decide +kernel
theorem d_J_digest_90 : decode I_J_digest.2.1 90 = .ok (.invokestatic 309, 3) := by decide +kernel
theorem d_J_digest_93 : decode I_J_digest.2.1 93 = .ok (.aload_n 0, 1) := by decide +kernel
theorem d_J_digest_94 : decode I_J_digest.2.1 94 = .ok (.iconst 1, 1) := by decide +kernel
theorem d_J_digest_95 : decode I_J_digest.2.1 95 = .ok (.bipush 29, 2) := by decide +kernel
theorem d_J_digest_97 : decode I_J_digest.2.1 97 = .ok (.iload_n 3, 1) := by decide +kernel
theorem d_J_digest_98 : decode I_J_digest.2.1 98 = .ok (.invokevirtual 319, 3) := by decide +kernel
theorem d_J_digest_101 : decode I_J_digest.2.1 101 = .ok (.i2l, 1) := by decide +kernel
theorem d_J_digest_102 : decode I_J_digest.2.1 102 = .ok (.invokestatic 309, 3) := by decide +kernel
theorem d_J_digest_105 : decode I_J_digest.2.1 105 = .ok (.lstore_n 1, 1) := by decide +kernel
theorem d_J_digest_106 : decode I_J_digest.2.1 106 = .ok (.lload_n 1, 1) := by decide +kernel
theorem d_J_digest_107 : decode I_J_digest.2.1 107 = .ok (.aload_n 0, 1) := by decide +kernel
theorem d_J_digest_108 : decode I_J_digest.2.1 108 = .ok (.iconst 5, 1) := by decide +kernel
theorem d_J_digest_109 : decode I_J_digest.2.1 109 = .ok (.iload_n 3, 1) := by decide +kernel
theorem d_J_digest_110 : decode I_J_digest.2.1 110 = .ok (.iconst 0, 1) := by decide +kernel
theorem d_J_digest_111 : decode I_J_digest.2.1 111 = .ok (.invokevirtual 321, 3) := by decide +kernel
theorem d_J_digest_114 : decode I_J_digest.2.1 114 = .ok (.invokestatic 309, 3) := by decide +kernel
theorem d_J_digest_117 : decode I_J_digest.2.1 117 = .ok (.aload_n 0, 1) := by decide +kernel
theorem d_J_digest_118 : decode I_J_digest.2.1 118 = .ok (.iconst 5, 1) := by decide +kernel
theorem d_J_digest_119 : decode I_J_digest.2.1 119 = .ok (.iload_n 3, 1) := by decide +kernel
theorem d_J_digest_120 : decode I_J_digest.2.1 120 = .ok (.iconst 1, 1) := by decide +kernel
theorem d_J_digest_121 : decode I_J_digest.2.1 121 = .ok (.invokevirtual 321, 3) := by decide +kernel
theorem d_J_digest_124 : decode I_J_digest.2.1 124 = .ok (.invokestatic 309, 3) := by decide +kernel
theorem d_J_digest_127 : decode I_J_digest.2.1 127 = .ok (.lstore_n 1, 1) := by decide +kernel
theorem d_J_digest_128 : decode I_J_digest.2.1 128 = .ok (.lload_n 1, 1) := by decide +kernel
theorem d_J_digest_129 : decode I_J_digest.2.1 129 = .ok (.aload_n 0, 1) := by decide +kernel
theorem d_J_digest_130 : decode I_J_digest.2.1 130 = .ok (.iload_n 3, 1) := by decide +kernel
theorem d_J_digest_131 : decode I_J_digest.2.1 131 = .ok (.iconst 4, 1) := by decide +kernel
theorem d_J_digest_132 : decode I_J_digest.2.1 132 = .ok (.iconst (-1), 1) := by decide +kernel
theorem d_J_digest_133 : decode I_J_digest.2.1 133 = .ok (.invokevirtual 325, 3) := by decide +kernel
theorem d_J_digest_136 : decode I_J_digest.2.1 136 = .ok (.i2l, 1) := by decide +kernel
theorem d_J_digest_137 : decode I_J_digest.2.1 137 = .ok (.invokestatic 309, 3) := by decide +kernel
theorem d_J_digest_140 : decode I_J_digest.2.1 140 = .ok (.aload_n 0, 1) := by decide +kernel
theorem d_J_digest_141 : decode I_J_digest.2.1 141 = .ok (.iload_n 3, 1) := by decide +kernel
theorem d_J_digest_142 : decode I_J_digest.2.1 142 = .ok (.iconst 4, 1) := by decide +kernel
theorem d_J_digest_143 : decode I_J_digest.2.1 143 = .ok (.iconst 0, 1) := by decide +kernel
theorem d_J_digest_144 : decode I_J_digest.2.1 144 = .ok (.invokevirtual 325, 3) := by decide +kernel
theorem d_J_digest_147 : decode I_J_digest.2.1 147 = .ok (.i2l, 1) := by decide +kernel
theorem d_J_digest_148 : decode I_J_digest.2.1 148 = .ok (.invokestatic 309, 3) := by decide +kernel
theorem d_J_digest_151 : decode I_J_digest.2.1 151 = .ok (.lstore_n 1, 1) := by decide +kernel
theorem d_J_digest_152 : decode I_J_digest.2.1 152 = .ok (.lload_n 1, 1) := by decide +kernel
theorem d_J_digest_153 : decode I_J_digest.2.1 153 = .ok (.aload_n 0, 1) := by decide +kernel
theorem d_J_digest_154 : decode I_J_digest.2.1 154 = .ok (.iconst 4, 1) := by decide +kernel
theorem d_J_digest_155 : decode I_J_digest.2.1 155 = .ok (.iload_n 3, 1) := by decide +kernel
theorem d_J_digest_156 : decode I_J_digest.2.1 156 = .ok (.iconst 5, 1) := by decide +kernel
theorem d_J_digest_157 : decode I_J_digest.2.1 157 = .ok (.iconst 0, 1) := by decide +kernel
theorem d_J_digest_158 : decode I_J_digest.2.1 158 = .ok (.invokevirtual 328, 3) := by decide +kernel
theorem d_J_digest_161 : decode I_J_digest.2.1 161 = .ok (.invokestatic 309, 3) := by decide +kernel
theorem d_J_digest_164 : decode I_J_digest.2.1 164 = .ok (.aload_n 0, 1) := by decide +kernel
theorem d_J_digest_165 : decode I_J_digest.2.1 165 = .ok (.iconst 4, 1) := by decide +kernel
theorem d_J_digest_166 : decode I_J_digest.2.1 166 = .ok (.iload_n 3, 1) := by decide +kernel
theorem d_J_digest_167 : decode I_J_digest.2.1 167 = .ok (.iconst 5, 1) := by decide +kernel
theorem d_J_digest_168 : decode I_J_digest.2.1 168 = .ok (.iconst 1, 1) := by decide +kernel
theorem d_J_digest_169 : decode I_J_digest.2.1 169 = .ok (.invokevirtual 328, 3) := by decide +kernel
theorem d_J_digest_172 : decode I_J_digest.2.1 172 = .ok (.invokestatic 309, 3) := by decide +kernel
theorem d_J_digest_175 : decode I_J_digest.2.1 175 = .ok (.lstore_n 1, 1) := by decide +kernel
theorem d_J_digest_176 : decode I_J_digest.2.1 176 = .ok (.lload_n 1, 1) := by decide +kernel
theorem d_J_digest_177 : decode I_J_digest.2.1 177 = .ok (.aload_n 0, 1) := by decide +kernel
theorem d_J_digest_178 : decode I_J_digest.2.1 178 = .ok (.bipush 7, 2) := by decide +kernel
theorem d_J_digest_180 : decode I_J_digest.2.1 180 = .ok (.bipush 9, 2) := by decide +kernel
theorem d_J_digest_182 : decode I_J_digest.2.1 182 = .ok (.iload_n 3, 1) := by decide +kernel
theorem d_J_digest_183 : decode I_J_digest.2.1 183 = .ok (.invokevirtual 332, 3) := by decide +kernel
theorem d_J_digest_186 : decode I_J_digest.2.1 186 = .ok (.i2l, 1) := by decide +kernel
theorem d_J_digest_187 : decode I_J_digest.2.1 187 = .ok (.invokestatic 309, 3) := by decide +kernel
theorem d_J_digest_190 : decode I_J_digest.2.1 190 = .ok (.lstore_n 1, 1) := by decide +kernel
theorem d_J_digest_191 : decode I_J_digest.2.1 191 = .ok (.iinc 3 1, 3) := by decide +kernel
theorem d_J_digest_194 : decode I_J_digest.2.1 194 = .ok (.goto (-153), 3) := by decide +kernel
theorem d_J_digest_197 : decode I_J_digest.2.1 197 = .ok (.getstatic 335, 3) := by decide +kernel
theorem d_J_digest_200 : decode I_J_digest.2.1 200 = .ok (.astore_n 3, 1) := by decide +kernel
theorem d_J_digest_201 : decode I_J_digest.2.1 201 = .ok (.aload_n 3, 1) := by decide +kernel
theorem d_J_digest_202 : decode I_J_digest.2.1 202 = .ok (.arraylength, 1) := by decide +kernel
theorem d_J_digest_203 : decode I_J_digest.2.1 203 = .ok (.istore 4, 2) := by decide +kernel
theorem d_J_digest_205 : decode I_J_digest.2.1 205 = .ok (.iconst 0, 1) := by decide +kernel
theorem d_J_digest_206 : decode I_J_digest.2.1 206 = .ok (.istore 5, 2) := by decide +kernel
theorem d_J_digest_208 : decode I_J_digest.2.1 208 = .ok (.iload 5, 2) := by decide +kernel
theorem d_J_digest_210 : decode I_J_digest.2.1 210 = .ok (.iload 4, 2) := by decide +kernel
theorem d_J_digest_212 : decode I_J_digest.2.1 212 = .ok (.if_icmp .ge 39, 3) := by decide +kernel
theorem d_J_digest_215 : decode I_J_digest.2.1 215 = .ok (.aload_n 3, 1) := by decide +kernel
theorem d_J_digest_216 : decode I_J_digest.2.1 216 = .ok (.iload 5, 2) := by decide +kernel
theorem d_J_digest_218 : decode I_J_digest.2.1 218 = .ok (.iaload, 1) := by decide +kernel
theorem d_J_digest_219 : decode I_J_digest.2.1 219 = .ok (.istore 6, 2) := by decide +kernel
theorem d_J_digest_221 : decode I_J_digest.2.1 221 = .ok (.lload_n 1, 1) := by decide +kernel
theorem d_J_digest_222 : decode I_J_digest.2.1 222 = .ok (.aload_n 0, 1) := by decide +kernel
theorem d_J_digest_223 : decode I_J_digest.2.1 223 = .ok (.iconst 0, 1) := by decide +kernel
theorem d_J_digest_224 : decode I_J_digest.2.1 224 = .ok (.iload 6, 2) := by decide +kernel
theorem d_J_digest_226 : decode I_J_digest.2.1 226 = .ok (.invokevirtual 338, 3) := by decide +kernel
theorem d_J_digest_229 : decode I_J_digest.2.1 229 = .ok (.i2l, 1) := by decide +kernel
theorem d_J_digest_230 : decode I_J_digest.2.1 230 = .ok (.invokestatic 309, 3) := by decide +kernel
theorem d_J_digest_233 : decode I_J_digest.2.1 233 = .ok (.aload_n 0, 1) := by decide +kernel
theorem d_J_digest_234 : decode I_J_digest.2.1 234 = .ok (.iconst 1, 1) := by decide +kernel
theorem d_J_digest_235 : decode I_J_digest.2.1 235 = .ok (.iload 6, 2) := by decide +kernel
theorem d_J_digest_237 : decode I_J_digest.2.1 237 = .ok (.invokevirtual 338, 3) := by decide +kernel
theorem d_J_digest_240 : decode I_J_digest.2.1 240 = .ok (.i2l, 1) := by decide +kernel
theorem d_J_digest_241 : decode I_J_digest.2.1 241 = .ok (.invokestatic 309, 3) := by decide +kernel
theorem d_J_digest_244 : decode I_J_digest.2.1 244 = .ok (.lstore_n 1, 1) := by decide +kernel
theorem d_J_digest_245 : decode I_J_digest.2.1 245 = .ok (.iinc 5 1, 3) := by decide +kernel
theorem d_J_digest_248 : decode I_J_digest.2.1 248 = .ok (.goto (-40), 3) := by decide +kernel
theorem d_J_digest_251 : decode I_J_digest.2.1 251 = .ok (.lload_n 1, 1) := by decide +kernel
theorem d_J_digest_252 : decode I_J_digest.2.1 252 = .ok (.aload_n 0, 1) := by decide +kernel
theorem d_J_digest_253 : decode I_J_digest.2.1 253 = .ok (.iconst 0, 1) := by decide +kernel
theorem d_J_digest_254 : decode I_J_digest.2.1 254 = .ok (.invokevirtual 340, 3) := by decide +kernel
theorem d_J_digest_257 : decode I_J_digest.2.1 257 = .ok (.i2l, 1) := by decide +kernel
theorem d_J_digest_258 : decode I_J_digest.2.1 258 = .ok (.invokestatic 309, 3) := by decide +kernel
theorem d_J_digest_261 : decode I_J_digest.2.1 261 = .ok (.aload_n 0, 1) := by decide +kernel
theorem d_J_digest_262 : decode I_J_digest.2.1 262 = .ok (.iconst 1, 1) := by decide +kernel
theorem d_J_digest_263 : decode I_J_digest.2.1 263 = .ok (.invokevirtual 340, 3) := by decide +kernel
theorem d_J_digest_266 : decode I_J_digest.2.1 266 = .ok (.i2l, 1) := by decide +kernel
theorem d_J_digest_267 : decode I_J_digest.2.1 267 = .ok (.invokestatic 309, 3) := by decide +kernel
theorem d_J_digest_270 : decode I_J_digest.2.1 270 = .ok (.lstore_n 1, 1) := by decide +kernel
theorem d_J_digest_271 : decode I_J_digest.2.1 271 = .ok (.lload_n 1, 1) := by decide +kernel
theorem d_J_digest_272 : decode I_J_digest.2.1 272 = .ok (.aload_n 0, 1) := by decide +kernel
theorem d_J_digest_273 : decode I_J_digest.2.1 273 = .ok (.invokevirtual 343, 3) := by decide +kernel
theorem d_J_digest_276 : decode I_J_digest.2.1 276 = .ok (.i2l, 1) := by decide +kernel
theorem d_J_digest_277 : decode I_J_digest.2.1 277 = .ok (.invokestatic 309, 3) := by decide +kernel
theorem d_J_digest_280 : decode I_J_digest.2.1 280 = .ok (.aload_n 0, 1) := by decide +kernel
theorem d_J_digest_281 : decode I_J_digest.2.1 281 = .ok (.invokevirtual 346, 3) := by decide +kernel
theorem d_J_digest_284 : decode I_J_digest.2.1 284 = .ok (.i2l, 1) := by decide +kernel
theorem d_J_digest_285 : decode I_J_digest.2.1 285 = .ok (.invokestatic 309, 3) := by decide +kernel
theorem d_J_digest_288 : decode I_J_digest.2.1 288 = .ok (.lstore_n 1, 1) := by decide +kernel
theorem d_J_digest_289 : decode I_J_digest.2.1 289 = .ok (.lload_n 1, 1) := by decide +kernel
theorem d_J_digest_290 : decode I_J_digest.2.1 290 = .ok (.aload_n 0, 1) := by decide +kernel
theorem d_J_digest_291 : decode I_J_digest.2.1 291 = .ok (.iconst 0, 1) := by decide +kernel
theorem d_J_digest_292 : decode I_J_digest.2.1 292 = .ok (.iconst 1, 1) := by decide +kernel
theorem d_J_digest_293 : decode I_J_digest.2.1 293 = .ok (.iconst 3, 1) := by decide +kernel
theorem d_J_digest_294 : decode I_J_digest.2.1 294 = .ok (.iconst 0, 1) := by decide +kernel
theorem d_J_digest_295 : decode I_J_digest.2.1 295 = .ok (.invokevirtual 349, 3) := by decide +kernel
theorem d_J_digest_298 : decode I_J_digest.2.1 298 = .ok (.i2l, 1) := by decide +kernel
theorem d_J_digest_299 : decode I_J_digest.2.1 299 = .ok (.invokestatic 309, 3) := by decide +kernel
theorem d_J_digest_302 : decode I_J_digest.2.1 302 = .ok (.aload_n 0, 1) := by decide +kernel
theorem d_J_digest_303 : decode I_J_digest.2.1 303 = .ok (.iconst 0, 1) := by decide +kernel
theorem d_J_digest_304 : decode I_J_digest.2.1 304 = .ok (.iconst 1, 1) := by decide +kernel
theorem d_J_digest_305 : decode I_J_digest.2.1 305 = .ok (.iconst 3, 1) := by decide +kernel
theorem d_J_digest_306 : decode I_J_digest.2.1 306 = .ok (.iconst 1, 1) := by decide +kernel
theorem d_J_digest_307 : decode I_J_digest.2.1 307 = .ok (.invokevirtual 349, 3) := by decide +kernel
theorem d_J_digest_310 : decode I_J_digest.2.1 310 = .ok (.i2l, 1) := by decide +kernel
theorem d_J_digest_311 : decode I_J_digest.2.1 311 = .ok (.invokestatic 309, 3) := by decide +kernel
theorem d_J_digest_314 : decode I_J_digest.2.1 314 = .ok (.lstore_n 1, 1) := by decide +kernel
theorem d_J_digest_315 : decode I_J_digest.2.1 315 = .ok (.lload_n 1, 1) := by decide +kernel
theorem d_J_digest_316 : decode I_J_digest.2.1 316 = .ok (.aload_n 0, 1) := by decide +kernel
theorem d_J_digest_317 : decode I_J_digest.2.1 317 = .ok (.iconst 0, 1) := by decide +kernel
theorem d_J_digest_318 : decode I_J_digest.2.1 318 = .ok (.invokevirtual 353, 3) := by decide +kernel
theorem d_J_digest_321 : decode I_J_digest.2.1 321 = .ok (.i2l, 1) := by decide +kernel
theorem d_J_digest_322 : decode I_J_digest.2.1 322 = .ok (.invokestatic 309, 3) := by decide +kernel
theorem d_J_digest_325 : decode I_J_digest.2.1 325 = .ok (.aload_n 0, 1) := by decide +kernel
theorem d_J_digest_326 : decode I_J_digest.2.1 326 = .ok (.iconst 1, 1) := by decide +kernel
theorem d_J_digest_327 : decode I_J_digest.2.1 327 = .ok (.invokevirtual 353, 3) := by decide +kernel
theorem d_J_digest_330 : decode I_J_digest.2.1 330 = .ok (.i2l, 1) := by decide +kernel
theorem d_J_digest_331 : decode I_J_digest.2.1 331 = .ok (.invokestatic 309, 3) := by decide +kernel
theorem d_J_digest_334 : decode I_J_digest.2.1 334 = .ok (.lstore_n 1, 1) := by decide +kernel
theorem d_J_digest_335 : decode I_J_digest.2.1 335 = .ok (.lload_n 1, 1) := by decide +kernel
theorem d_J_digest_336 : decode I_J_digest.2.1 336 = .ok (.aload_n 0, 1) := by decide +kernel
theorem d_J_digest_337 : decode I_J_digest.2.1 337 = .ok (.iconst 3, 1) := by decide +kernel
theorem d_J_digest_338 : decode I_J_digest.2.1 338 = .ok (.iconst 0, 1) := by decide +kernel
theorem d_J_digest_339 : decode I_J_digest.2.1 339 = .ok (.invokevirtual 355, 3) := by decide +kernel
theorem d_J_digest_342 : decode I_J_digest.2.1 342 = .ok (.i2l, 1) := by decide +kernel
theorem d_J_digest_343 : decode I_J_digest.2.1 343 = .ok (.invokestatic 309, 3) := by decide +kernel
theorem d_J_digest_346 : decode I_J_digest.2.1 346 = .ok (.aload_n 0, 1) := by decide +kernel
theorem d_J_digest_347 : decode I_J_digest.2.1 347 = .ok (.invokevirtual 358, 3) := by decide +kernel
theorem d_J_digest_350 : decode I_J_digest.2.1 350 = .ok (.i2l, 1) := by decide +kernel
theorem d_J_digest_351 : decode I_J_digest.2.1 351 = .ok (.invokestatic 309, 3) := by decide +kernel
theorem d_J_digest_354 : decode I_J_digest.2.1 354 = .ok (.lstore_n 1, 1) := by decide +kernel
theorem d_J_digest_355 : decode I_J_digest.2.1 355 = .ok (.lload_n 1, 1) := by decide +kernel
theorem d_J_digest_356 : decode I_J_digest.2.1 356 = .ok (.aload_n 0, 1) := by decide +kernel
theorem d_J_digest_357 : decode I_J_digest.2.1 357 = .ok (.iconst 4, 1) := by decide +kernel
theorem d_J_digest_358 : decode I_J_digest.2.1 358 = .ok (.iconst 0, 1) := by decide +kernel
theorem d_J_digest_359 : decode I_J_digest.2.1 359 = .ok (.iconst 0, 1) := by decide +kernel
theorem d_J_digest_360 : decode I_J_digest.2.1 360 = .ok (.iconst 4, 1) := by decide +kernel
theorem d_J_digest_361 : decode I_J_digest.2.1 361 = .ok (.invokevirtual 361, 3) := by decide +kernel
theorem d_J_digest_364 : decode I_J_digest.2.1 364 = .ok (.i2l, 1) := by decide +kernel
theorem d_J_digest_365 : decode I_J_digest.2.1 365 = .ok (.invokestatic 309, 3) := by decide +kernel
theorem d_J_digest_368 : decode I_J_digest.2.1 368 = .ok (.aload_n 0, 1) := by decide +kernel
theorem d_J_digest_369 : decode I_J_digest.2.1 369 = .ok (.bipush 7, 2) := by decide +kernel
theorem d_J_digest_371 : decode I_J_digest.2.1 371 = .ok (.bipush 9, 2) := by decide +kernel
theorem d_J_digest_373 : decode I_J_digest.2.1 373 = .ok (.iconst (-1), 1) := by decide +kernel
theorem d_J_digest_374 : decode I_J_digest.2.1 374 = .ok (.invokevirtual 332, 3) := by decide +kernel
theorem d_J_digest_377 : decode I_J_digest.2.1 377 = .ok (.i2l, 1) := by decide +kernel
theorem d_J_digest_378 : decode I_J_digest.2.1 378 = .ok (.invokestatic 309, 3) := by decide +kernel
theorem d_J_digest_381 : decode I_J_digest.2.1 381 = .ok (.lstore_n 1, 1) := by decide +kernel
theorem d_J_digest_382 : decode I_J_digest.2.1 382 = .ok (.lload_n 1, 1) := by decide +kernel
theorem d_J_digest_383 : decode I_J_digest.2.1 383 = .ok (.lreturn, 1) := by decide +kernel
theorem d_J_mix_0 : decode I_J_mix.2.1 0 = .ok (.ldc2_w 364, 3) := by decide +kernel
theorem d_J_mix_3 : decode I_J_mix.2.1 3 = .ok (.lload_n 0, 1) := by decide +kernel
theorem d_J_mix_4 : decode I_J_mix.2.1 4 = .ok (.lmul, 1) := by decide +kernel
theorem d_J_mix_5 : decode I_J_mix.2.1 5 = .ok (.lload_n 2, 1) := by decide +kernel
theorem d_J_mix_6 : decode I_J_mix.2.1 6 = .ok (.ladd, 1) := by decide +kernel
theorem d_J_mix_7 : decode I_J_mix.2.1 7 = .ok (.lreturn, 1) := by decide +kernel
theorem d_J_nextLot_0 : decode I_J_nextLot.2.1 0 = .ok (.ldc_w 366, 3) := by decide +kernel
theorem d_J_nextLot_3 : decode I_J_nextLot.2.1 3 = .ok (.iload_n 0, 1) := by decide +kernel
theorem d_J_nextLot_4 : decode I_J_nextLot.2.1 4 = .ok (.imul, 1) := by decide +kernel
theorem d_J_nextLot_5 : decode I_J_nextLot.2.1 5 = .ok (.sipush 12345, 3) := by decide +kernel
theorem d_J_nextLot_8 : decode I_J_nextLot.2.1 8 = .ok (.iadd, 1) := by decide +kernel
theorem d_J_nextLot_9 : decode I_J_nextLot.2.1 9 = .ok (.ireturn, 1) := by decide +kernel
theorem d_J_isDog_0 : decode I_J_isDog.2.1 0 = .ok (.iload_n 0, 1) := by decide +kernel
theorem d_J_isDog_1 : decode I_J_isDog.2.1 1 = .ok (.ifCond .lt 12, 3) := by decide +kernel
theorem d_J_isDog_4 : decode I_J_isDog.2.1 4 = .ok (.iload_n 0, 1) := by decide +kernel
theorem d_J_isDog_5 : decode I_J_isDog.2.1 5 = .ok (.iconst 2, 1) := by decide +kernel
theorem d_J_isDog_6 : decode I_J_isDog.2.1 6 = .ok (.if_icmp .ge 7, 3) := by decide +kernel
theorem d_J_isDog_9 : decode I_J_isDog.2.1 9 = .ok (.iconst 1, 1) := by decide +kernel
theorem d_J_isDog_10 : decode I_J_isDog.2.1 10 = .ok (.goto 4, 3) := by decide +kernel
theorem d_J_isDog_13 : decode I_J_isDog.2.1 13 = .ok (.iconst 0, 1) := by decide +kernel
theorem d_J_isDog_14 : decode I_J_isDog.2.1 14 = .ok (.ireturn, 1) := by decide +kernel
theorem d_J_isThing_0 : decode I_J_isThing.2.1 0 = .ok (.iload_n 0, 1) := by decide +kernel
theorem d_J_isThing_1 : decode I_J_isThing.2.1 1 = .ok (.ifCond .lt 12, 3) := by decide +kernel
theorem d_J_isThing_4 : decode I_J_isThing.2.1 4 = .ok (.iload_n 0, 1) := by decide +kernel
theorem d_J_isThing_5 : decode I_J_isThing.2.1 5 = .ok (.iconst 3, 1) := by decide +kernel
theorem d_J_isThing_6 : decode I_J_isThing.2.1 6 = .ok (.if_icmp .ge 7, 3) := by decide +kernel
theorem d_J_isThing_9 : decode I_J_isThing.2.1 9 = .ok (.iconst 1, 1) := by decide +kernel
theorem d_J_isThing_10 : decode I_J_isThing.2.1 10 = .ok (.goto 4, 3) := by decide +kernel
theorem d_J_isThing_13 : decode I_J_isThing.2.1 13 = .ok (.iconst 0, 1) := by decide +kernel
theorem d_J_isThing_14 : decode I_J_isThing.2.1 14 = .ok (.ireturn, 1) := by decide +kernel
theorem d_J_isDay_0 : decode I_J_isDay.2.1 0 = .ok (.iload_n 0, 1) := by decide +kernel
theorem d_J_isDay_1 : decode I_J_isDay.2.1 1 = .ok (.ifCond .lt 13, 3) := by decide +kernel
theorem d_J_isDay_4 : decode I_J_isDay.2.1 4 = .ok (.iload_n 0, 1) := by decide +kernel
theorem d_J_isDay_5 : decode I_J_isDay.2.1 5 = .ok (.bipush 30, 2) := by decide +kernel
theorem d_J_isDay_7 : decode I_J_isDay.2.1 7 = .ok (.if_icmp .ge 7, 3) := by decide +kernel
theorem d_J_isDay_10 : decode I_J_isDay.2.1 10 = .ok (.iconst 1, 1) := by decide +kernel
theorem d_J_isDay_11 : decode I_J_isDay.2.1 11 = .ok (.goto 4, 3) := by decide +kernel
theorem d_J_isDay_14 : decode I_J_isDay.2.1 14 = .ok (.iconst 0, 1) := by decide +kernel
theorem d_J_isDay_15 : decode I_J_isDay.2.1 15 = .ok (.ireturn, 1) := by decide +kernel
theorem d_J_isSearchDay_0 : decode I_J_isSearchDay.2.1 0 = .ok (.iload_n 0, 1) := by decide +kernel
theorem d_J_isSearchDay_1 : decode I_J_isSearchDay.2.1 1 = .ok (.ifCond .lt 13, 3) := by decide +kernel
theorem d_J_isSearchDay_4 : decode I_J_isSearchDay.2.1 4 = .ok (.iload_n 0, 1) := by decide +kernel
theorem d_J_isSearchDay_5 : decode I_J_isSearchDay.2.1 5 = .ok (.bipush 10, 2) := by decide +kernel
theorem d_J_isSearchDay_7 : decode I_J_isSearchDay.2.1 7 = .ok (.if_icmp .ge 7, 3) := by decide +kernel
theorem d_J_isSearchDay_10 : decode I_J_isSearchDay.2.1 10 = .ok (.iconst 1, 1) := by decide +kernel
theorem d_J_isSearchDay_11 : decode I_J_isSearchDay.2.1 11 = .ok (.goto 4, 3) := by decide +kernel
theorem d_J_isSearchDay_14 : decode I_J_isSearchDay.2.1 14 = .ok (.iconst 0, 1) := by decide +kernel
theorem d_J_isSearchDay_15 : decode I_J_isSearchDay.2.1 15 = .ok (.ireturn, 1) := by decide +kernel
theorem d_J_isOneOfTwo_0 : decode I_J_isOneOfTwo.2.1 0 = .ok (.iload_n 0, 1) := by decide +kernel
theorem d_J_isOneOfTwo_1 : decode I_J_isOneOfTwo.2.1 1 = .ok (.ifCond .eq 8, 3) := by decide +kernel
theorem d_J_isOneOfTwo_4 : decode I_J_isOneOfTwo.2.1 4 = .ok (.iload_n 0, 1) := by decide +kernel
theorem d_J_isOneOfTwo_5 : decode I_J_isOneOfTwo.2.1 5 = .ok (.iconst 1, 1) := by decide +kernel
theorem d_J_isOneOfTwo_6 : decode I_J_isOneOfTwo.2.1 6 = .ok (.if_icmp .ne 7, 3) := by decide +kernel
theorem d_J_isOneOfTwo_9 : decode I_J_isOneOfTwo.2.1 9 = .ok (.iconst 1, 1) := by decide +kernel
theorem d_J_isOneOfTwo_10 : decode I_J_isOneOfTwo.2.1 10 = .ok (.goto 4, 3) := by decide +kernel
theorem d_J_isOneOfTwo_13 : decode I_J_isOneOfTwo.2.1 13 = .ok (.iconst 0, 1) := by decide +kernel
theorem d_J_isOneOfTwo_14 : decode I_J_isOneOfTwo.2.1 14 = .ok (.ireturn, 1) := by decide +kernel
theorem d_J_isChance_0 : decode I_J_isChance.2.1 0 = .ok (.iload_n 0, 1) := by decide +kernel
theorem d_J_isChance_1 : decode I_J_isChance.2.1 1 = .ok (.ifCond .lt 13, 3) := by decide +kernel
theorem d_J_isChance_4 : decode I_J_isChance.2.1 4 = .ok (.iload_n 0, 1) := by decide +kernel
theorem d_J_isChance_5 : decode I_J_isChance.2.1 5 = .ok (.bipush 16, 2) := by decide +kernel
theorem d_J_isChance_7 : decode I_J_isChance.2.1 7 = .ok (.if_icmp .gt 7, 3) := by decide +kernel
theorem d_J_isChance_10 : decode I_J_isChance.2.1 10 = .ok (.iconst 1, 1) := by decide +kernel
theorem d_J_isChance_11 : decode I_J_isChance.2.1 11 = .ok (.goto 4, 3) := by decide +kernel
theorem d_J_isChance_14 : decode I_J_isChance.2.1 14 = .ok (.iconst 0, 1) := by decide +kernel
theorem d_J_isChance_15 : decode I_J_isChance.2.1 15 = .ok (.ireturn, 1) := by decide +kernel
theorem d_J_refusal_0 : decode I_J_refusal.2.1 0 = .ok (.ldc2_w 369, 3) := by decide +kernel
theorem d_J_refusal_3 : decode I_J_refusal.2.1 3 = .ok (.iload_n 0, 1) := by decide +kernel
theorem d_J_refusal_4 : decode I_J_refusal.2.1 4 = .ok (.i2l, 1) := by decide +kernel
theorem d_J_refusal_5 : decode I_J_refusal.2.1 5 = .ok (.lsub, 1) := by decide +kernel
theorem d_J_refusal_6 : decode I_J_refusal.2.1 6 = .ok (.lreturn, 1) := by decide +kernel
theorem d_J_fraction_0 : decode I_J_fraction.2.1 0 = .ok (.lload_n 0, 1) := by decide +kernel
theorem d_J_fraction_1 : decode I_J_fraction.2.1 1 = .ok (.lload_n 2, 1) := by decide +kernel
theorem d_J_fraction_2 : decode I_J_fraction.2.1 2 = .ok (.invokestatic 371, 3) := by decide +kernel
theorem d_J_fraction_5 : decode I_J_fraction.2.1 5 = .ok (.lstore 5, 2) := by decide +kernel
theorem d_J_fraction_7 : decode I_J_fraction.2.1 7 = .ok (.lload 5, 2) := by decide +kernel
theorem d_J_fraction_9 : decode I_J_fraction.2.1 9 = .ok (.lconst 0, 1) := by decide +kernel
theorem d_J_fraction_10 : decode I_J_fraction.2.1 10 = .ok (.lcmp, 1) := by decide +kernel
theorem d_J_fraction_11 : decode I_J_fraction.2.1 11 = .ok (.ifCond .ne 5, 3) := by decide +kernel
theorem d_J_fraction_14 : decode I_J_fraction.2.1 14 = .ok (.lconst 0, 1) := by decide +kernel
theorem d_J_fraction_15 : decode I_J_fraction.2.1 15 = .ok (.lreturn, 1) := by decide +kernel
theorem d_J_fraction_16 : decode I_J_fraction.2.1 16 = .ok (.iload 4, 2) := by decide +kernel
theorem d_J_fraction_18 : decode I_J_fraction.2.1 18 = .ok (.ifCond .ne 7, 3) := by decide +kernel
theorem d_J_fraction_21 : decode I_J_fraction.2.1 21 = .ok (.lload_n 0, 1) := by decide +kernel
theorem d_J_fraction_22 : decode I_J_fraction.2.1 22 = .ok (.goto 4, 3) := by decide +kernel
theorem d_J_fraction_25 : decode I_J_fraction.2.1 25 = .ok (.lload_n 2, 1) := by decide +kernel
theorem d_J_fraction_26 : decode I_J_fraction.2.1 26 = .ok (.lload 5, 2) := by decide +kernel
theorem d_J_fraction_28 : decode I_J_fraction.2.1 28 = .ok (.ldiv, 1) := by decide +kernel
theorem d_J_fraction_29 : decode I_J_fraction.2.1 29 = .ok (.lreturn, 1) := by decide +kernel
theorem d_J_greatestDivisor_0 : decode I_J_greatestDivisor.2.1 0 = .ok (.lload_n 0, 1) := by decide +kernel
theorem d_J_greatestDivisor_1 : decode I_J_greatestDivisor.2.1 1 = .ok (.lstore 4, 2) := by decide +kernel
theorem d_J_greatestDivisor_3 : decode I_J_greatestDivisor.2.1 3 = .ok (.lload_n 2, 1) := by decide +kernel
theorem d_J_greatestDivisor_4 : decode I_J_greatestDivisor.2.1 4 = .ok (.lstore 6, 2) := by decide +kernel
theorem d_J_greatestDivisor_6 : decode I_J_greatestDivisor.2.1 6 = .ok (.iconst 0, 1) := by decide +kernel
theorem d_J_greatestDivisor_7 : decode I_J_greatestDivisor.2.1 7 = .ok (.istore 8, 2) := by decide +kernel
theorem d_J_greatestDivisor_9 : decode I_J_greatestDivisor.2.1 9 = .ok (.iload 8, 2) := by decide +kernel
theorem d_J_greatestDivisor_11 : decode I_J_greatestDivisor.2.1 11 = .ok (.sipush 200, 3) := by decide +kernel
theorem d_J_greatestDivisor_14 : decode I_J_greatestDivisor.2.1 14 = .ok (.if_icmp .ge 31, 3) := by decide +kernel
theorem d_J_greatestDivisor_17 : decode I_J_greatestDivisor.2.1 17 = .ok (.lload 6, 2) := by decide +kernel
theorem d_J_greatestDivisor_19 : decode I_J_greatestDivisor.2.1 19 = .ok (.lconst 0, 1) := by decide +kernel
theorem d_J_greatestDivisor_20 : decode I_J_greatestDivisor.2.1 20 = .ok (.lcmp, 1) := by decide +kernel
theorem d_J_greatestDivisor_21 : decode I_J_greatestDivisor.2.1 21 = .ok (.ifCond .eq 24, 3) := by decide +kernel
theorem d_J_greatestDivisor_24 : decode I_J_greatestDivisor.2.1 24 = .ok (.lload 4, 2) := by decide +kernel
theorem d_J_greatestDivisor_26 : decode I_J_greatestDivisor.2.1 26 = .ok (.lload 6, 2) := by decide +kernel
theorem d_J_greatestDivisor_28 : decode I_J_greatestDivisor.2.1 28 = .ok (.lrem, 1) := by decide +kernel
theorem d_J_greatestDivisor_29 : decode I_J_greatestDivisor.2.1 29 = .ok (.lstore 9, 2) := by decide +kernel
theorem d_J_greatestDivisor_31 : decode I_J_greatestDivisor.2.1 31 = .ok (.lload 6, 2) := by decide +kernel
theorem d_J_greatestDivisor_33 : decode I_J_greatestDivisor.2.1 33 = .ok (.lstore 4, 2) := by decide +kernel
theorem d_J_greatestDivisor_35 : decode I_J_greatestDivisor.2.1 35 = .ok (.lload 9, 2) := by decide +kernel
theorem d_J_greatestDivisor_37 : decode I_J_greatestDivisor.2.1 37 = .ok (.lstore 6, 2) := by decide +kernel
theorem d_J_greatestDivisor_39 : decode I_J_greatestDivisor.2.1 39 = .ok (.iinc 8 1, 3) := by decide +kernel
theorem d_J_greatestDivisor_42 : decode I_J_greatestDivisor.2.1 42 = .ok (.goto (-33), 3) := by decide +kernel
theorem d_J_greatestDivisor_45 : decode I_J_greatestDivisor.2.1 45 = .ok (.lload 4, 2) := by decide +kernel
theorem d_J_greatestDivisor_47 : decode I_J_greatestDivisor.2.1 47 = .ok (.lreturn, 1) := by decide +kernel
theorem d_J_moodBehind_0 : decode I_J_moodBehind.2.1 0 = .ok (.aload_n 0, 1) := by decide +kernel
theorem d_J_moodBehind_1 : decode I_J_moodBehind.2.1 1 = .ok (.getfield 40, 3) := by decide +kernel
theorem d_J_moodBehind_4 : decode I_J_moodBehind.2.1 4 = .ok (.getfield 237, 3) := by decide +kernel
theorem d_J_moodBehind_7 : decode I_J_moodBehind.2.1 7 = .ok (.iconst 0, 1) := by decide +kernel
theorem d_J_moodBehind_8 : decode I_J_moodBehind.2.1 8 = .ok (.aaload, 1) := by decide +kernel
theorem d_J_moodBehind_9 : decode I_J_moodBehind.2.1 9 = .ok (.astore_n 3, 1) := by decide +kernel
theorem d_J_moodBehind_10 : decode I_J_moodBehind.2.1 10 = .ok (.aload_n 3, 1) := by decide +kernel
theorem d_J_moodBehind_11 : decode I_J_moodBehind.2.1 11 = .ok (.aload_n 0, 1) := by decide +kernel
theorem d_J_moodBehind_12 : decode I_J_moodBehind.2.1 12 = .ok (.getfield 28, 3) := by decide +kernel
theorem d_J_moodBehind_15 : decode I_J_moodBehind.2.1 15 = .ok (.iload_n 1, 1) := by decide +kernel
theorem d_J_moodBehind_16 : decode I_J_moodBehind.2.1 16 = .ok (.aaload, 1) := by decide +kernel
theorem d_J_moodBehind_17 : decode I_J_moodBehind.2.1 17 = .ok (.iconst (-1), 1) := by decide +kernel
theorem d_J_moodBehind_18 : decode I_J_moodBehind.2.1 18 = .ok (.invokevirtual 241, 3) := by decide +kernel
theorem d_J_moodBehind_21 : decode I_J_moodBehind.2.1 21 = .ok (.iconst 0, 1) := by decide +kernel
theorem d_J_moodBehind_22 : decode I_J_moodBehind.2.1 22 = .ok (.istore 4, 2) := by decide +kernel
theorem d_J_moodBehind_24 : decode I_J_moodBehind.2.1 24 = .ok (.iload 4, 2) := by decide +kernel
theorem d_J_moodBehind_26 : decode I_J_moodBehind.2.1 26 = .ok (.iload_n 2, 1) := by decide +kernel
theorem d_J_moodBehind_27 : decode I_J_moodBehind.2.1 27 = .ok (.if_icmp .gt 19, 3) := by decide +kernel
theorem d_J_moodBehind_30 : decode I_J_moodBehind.2.1 30 = .ok (.aload_n 0, 1) := by decide +kernel
theorem d_J_moodBehind_31 : decode I_J_moodBehind.2.1 31 = .ok (.getfield 40, 3) := by decide +kernel
theorem d_J_moodBehind_34 : decode I_J_moodBehind.2.1 34 = .ok (.aload_n 3, 1) := by decide +kernel
theorem d_J_moodBehind_35 : decode I_J_moodBehind.2.1 35 = .ok (.iload 4, 2) := by decide +kernel
theorem d_J_moodBehind_37 : decode I_J_moodBehind.2.1 37 = .ok (.invokevirtual 374, 3) := by decide +kernel
theorem d_J_moodBehind_40 : decode I_J_moodBehind.2.1 40 = .ok (.iinc 4 1, 3) := by decide +kernel
theorem d_J_moodBehind_43 : decode I_J_moodBehind.2.1 43 = .ok (.goto (-19), 3) := by decide +kernel
theorem d_J_moodBehind_46 : decode I_J_moodBehind.2.1 46 = .ok (.aload_n 3, 1) := by decide +kernel
theorem d_J_moodBehind_47 : decode I_J_moodBehind.2.1 47 = .ok (.areturn, 1) := by decide +kernel
theorem d_J_noteFound_0 : decode I_J_noteFound.2.1 0 = .ok (.aload_n 0, 1) := by decide +kernel
theorem d_J_noteFound_1 : decode I_J_noteFound.2.1 1 = .ok (.getfield 40, 3) := by decide +kernel
theorem d_J_noteFound_4 : decode I_J_noteFound.2.1 4 = .ok (.getfield 237, 3) := by decide +kernel
theorem d_J_noteFound_7 : decode I_J_noteFound.2.1 7 = .ok (.iconst 0, 1) := by decide +kernel
theorem d_J_noteFound_8 : decode I_J_noteFound.2.1 8 = .ok (.aaload, 1) := by decide +kernel
theorem d_J_noteFound_9 : decode I_J_noteFound.2.1 9 = .ok (.astore_n 2, 1) := by decide +kernel
theorem d_J_noteFound_10 : decode I_J_noteFound.2.1 10 = .ok (.aload_n 2, 1) := by decide +kernel
theorem d_J_noteFound_11 : decode I_J_noteFound.2.1 11 = .ok (.aload_n 0, 1) := by decide +kernel
theorem d_J_noteFound_12 : decode I_J_noteFound.2.1 12 = .ok (.getfield 28, 3) := by decide +kernel
theorem d_J_noteFound_15 : decode I_J_noteFound.2.1 15 = .ok (.iload_n 1, 1) := by decide +kernel
theorem d_J_noteFound_16 : decode I_J_noteFound.2.1 16 = .ok (.aaload, 1) := by decide +kernel
theorem d_J_noteFound_17 : decode I_J_noteFound.2.1 17 = .ok (.iconst (-1), 1) := by decide +kernel
theorem d_J_noteFound_18 : decode I_J_noteFound.2.1 18 = .ok (.invokevirtual 241, 3) := by decide +kernel
theorem d_J_noteFound_21 : decode I_J_noteFound.2.1 21 = .ok (.iconst 0, 1) := by decide +kernel
theorem d_J_noteFound_22 : decode I_J_noteFound.2.1 22 = .ok (.istore_n 3, 1) := by decide +kernel
theorem d_J_noteFound_23 : decode I_J_noteFound.2.1 23 = .ok (.iload_n 3, 1) := by decide +kernel
theorem d_J_noteFound_24 : decode I_J_noteFound.2.1 24 = .ok (.bipush 30, 2) := by decide +kernel
theorem d_J_noteFound_26 : decode I_J_noteFound.2.1 26 = .ok (.if_icmp .ge 30, 3) := by decide +kernel
theorem d_J_noteFound_29 : decode I_J_noteFound.2.1 29 = .ok (.aload_n 0, 1) := by decide +kernel
theorem d_J_noteFound_30 : decode I_J_noteFound.2.1 30 = .ok (.getfield 40, 3) := by decide +kernel
theorem d_J_noteFound_33 : decode I_J_noteFound.2.1 33 = .ok (.aload_n 2, 1) := by decide +kernel
theorem d_J_noteFound_34 : decode I_J_noteFound.2.1 34 = .ok (.iload_n 3, 1) := by decide +kernel
theorem d_J_noteFound_35 : decode I_J_noteFound.2.1 35 = .ok (.invokevirtual 374, 3) := by decide +kernel
theorem d_J_noteFound_38 : decode I_J_noteFound.2.1 38 = .ok (.aload_n 0, 1) := by decide +kernel
theorem d_J_noteFound_39 : decode I_J_noteFound.2.1 39 = .ok (.getfield 82, 3) := by decide +kernel
theorem d_J_noteFound_42 : decode I_J_noteFound.2.1 42 = .ok (.iload_n 1, 1) := by decide +kernel
theorem d_J_noteFound_43 : decode I_J_noteFound.2.1 43 = .ok (.aaload, 1) := by decide +kernel
theorem d_J_noteFound_44 : decode I_J_noteFound.2.1 44 = .ok (.iload_n 3, 1) := by decide +kernel
theorem d_J_noteFound_45 : decode I_J_noteFound.2.1 45 = .ok (.aload_n 2, 1) := by decide +kernel
theorem d_J_noteFound_46 : decode I_J_noteFound.2.1 46 = .ok (.getfield 159, 3) := by decide +kernel
theorem d_J_noteFound_49 : decode I_J_noteFound.2.1 49 = .ok (.iastore, 1) := by decide +kernel
theorem d_J_noteFound_50 : decode I_J_noteFound.2.1 50 = .ok (.iinc 3 1, 3) := by decide +kernel
theorem d_J_noteFound_53 : decode I_J_noteFound.2.1 53 = .ok (.goto (-30), 3) := by decide +kernel
theorem d_J_noteFound_56 : decode I_J_noteFound.2.1 56 = .ok (.return_, 1) := by decide +kernel
theorem d_J_areAlike_0 : decode I_J_areAlike.2.1 0 = .ok (.aload_n 0, 1) := by decide +kernel
theorem d_J_areAlike_1 : decode I_J_areAlike.2.1 1 = .ok (.getfield 40, 3) := by decide +kernel
theorem d_J_areAlike_4 : decode I_J_areAlike.2.1 4 = .ok (.iload_n 1, 1) := by decide +kernel
theorem d_J_areAlike_5 : decode I_J_areAlike.2.1 5 = .ok (.invokevirtual 245, 3) := by decide +kernel
theorem d_J_areAlike_8 : decode I_J_areAlike.2.1 8 = .ok (.ifCond .eq 14, 3) := by decide +kernel
theorem d_J_areAlike_11 : decode I_J_areAlike.2.1 11 = .ok (.aload_n 0, 1) := by decide +kernel
theorem d_J_areAlike_12 : decode I_J_areAlike.2.1 12 = .ok (.getfield 40, 3) := by decide +kernel
theorem d_J_areAlike_15 : decode I_J_areAlike.2.1 15 = .ok (.iload_n 2, 1) := by decide +kernel
theorem d_J_areAlike_16 : decode I_J_areAlike.2.1 16 = .ok (.invokevirtual 245, 3) := by decide +kernel
theorem d_J_areAlike_19 : decode I_J_areAlike.2.1 19 = .ok (.ifCond .ne 5, 3) := by decide +kernel
theorem d_J_areAlike_22 : decode I_J_areAlike.2.1 22 = .ok (.iconst 0, 1) := by decide +kernel
theorem d_J_areAlike_23 : decode I_J_areAlike.2.1 23 = .ok (.ireturn, 1) := by decide +kernel
theorem d_J_areAlike_24 : decode I_J_areAlike.2.1 24 = .ok (.iconst 0, 1) := by decide +kernel
theorem d_J_areAlike_25 : decode I_J_areAlike.2.1 25 = .ok (.istore_n 3, 1) := by decide +kernel
theorem d_J_areAlike_26 : decode I_J_areAlike.2.1 26 = .ok (.iload_n 3, 1) := by decide +kernel
theorem d_J_areAlike_27 : decode I_J_areAlike.2.1 27 = .ok (.aload_n 0, 1) := by decide +kernel
theorem d_J_areAlike_28 : decode I_J_areAlike.2.1 28 = .ok (.getfield 85, 3) := by decide +kernel
theorem d_J_areAlike_31 : decode I_J_areAlike.2.1 31 = .ok (.arraylength, 1) := by decide +kernel
theorem d_J_areAlike_32 : decode I_J_areAlike.2.1 32 = .ok (.if_icmp .ge 16, 3) := by decide +kernel
theorem d_J_areAlike_35 : decode I_J_areAlike.2.1 35 = .ok (.aload_n 0, 1) := by decide +kernel
theorem d_J_areAlike_36 : decode I_J_areAlike.2.1 36 = .ok (.getfield 85, 3) := by decide +kernel
theorem d_J_areAlike_39 : decode I_J_areAlike.2.1 39 = .ok (.iload_n 3, 1) := by decide +kernel
theorem d_J_areAlike_40 : decode I_J_areAlike.2.1 40 = .ok (.iconst 0, 1) := by decide +kernel
theorem d_J_areAlike_41 : decode I_J_areAlike.2.1 41 = .ok (.iastore, 1) := by decide +kernel
theorem d_J_areAlike_42 : decode I_J_areAlike.2.1 42 = .ok (.iinc 3 1, 3) := by decide +kernel
theorem d_J_areAlike_45 : decode I_J_areAlike.2.1 45 = .ok (.goto (-19), 3) := by decide +kernel
theorem d_J_areAlike_48 : decode I_J_areAlike.2.1 48 = .ok (.aload_n 0, 1) := by decide +kernel
theorem d_J_areAlike_49 : decode I_J_areAlike.2.1 49 = .ok (.iload_n 2, 1) := by decide +kernel
theorem d_J_areAlike_50 : decode I_J_areAlike.2.1 50 = .ok (.iconst (-1), 1) := by decide +kernel
theorem d_J_areAlike_51 : decode I_J_areAlike.2.1 51 = .ok (.invokevirtual 377, 3) := by decide +kernel
theorem d_J_areAlike_54 : decode I_J_areAlike.2.1 54 = .ok (.istore_n 3, 1) := by decide +kernel
theorem d_J_areAlike_55 : decode I_J_areAlike.2.1 55 = .ok (.aload_n 0, 1) := by decide +kernel
theorem d_J_areAlike_56 : decode I_J_areAlike.2.1 56 = .ok (.iload_n 1, 1) := by decide +kernel
theorem d_J_areAlike_57 : decode I_J_areAlike.2.1 57 = .ok (.iconst 1, 1) := by decide +kernel
theorem d_J_areAlike_58 : decode I_J_areAlike.2.1 58 = .ok (.invokevirtual 377, 3) := by decide +kernel
theorem d_J_areAlike_61 : decode I_J_areAlike.2.1 61 = .ok (.istore 4, 2) := by decide +kernel
theorem d_J_areAlike_63 : decode I_J_areAlike.2.1 63 = .ok (.iload 4, 2) := by decide +kernel
theorem d_J_areAlike_65 : decode I_J_areAlike.2.1 65 = .ok (.ifCond .eq 9, 3) := by decide +kernel
theorem d_J_areAlike_68 : decode I_J_areAlike.2.1 68 = .ok (.iload 4, 2) := by decide +kernel
theorem d_J_areAlike_70 : decode I_J_areAlike.2.1 70 = .ok (.iload_n 3, 1) := by decide +kernel
theorem d_J_areAlike_71 : decode I_J_areAlike.2.1 71 = .ok (.if_icmp .eq 5, 3) := by decide +kernel
theorem d_J_areAlike_74 : decode I_J_areAlike.2.1 74 = .ok (.iconst 0, 1) := by decide +kernel
theorem d_J_areAlike_75 : decode I_J_areAlike.2.1 75 = .ok (.ireturn, 1) := by decide +kernel
theorem d_J_areAlike_76 : decode I_J_areAlike.2.1 76 = .ok (.iconst 0, 1) := by decide +kernel
theorem d_J_areAlike_77 : decode I_J_areAlike.2.1 77 = .ok (.istore 5, 2) := by decide +kernel
theorem d_J_areAlike_79 : decode I_J_areAlike.2.1 79 = .ok (.iload 5, 2) := by decide +kernel
theorem d_J_areAlike_81 : decode I_J_areAlike.2.1 81 = .ok (.aload_n 0, 1) := by decide +kernel
theorem d_J_areAlike_82 : decode I_J_areAlike.2.1 82 = .ok (.getfield 85, 3) := by decide +kernel
theorem d_J_areAlike_85 : decode I_J_areAlike.2.1 85 = .ok (.arraylength, 1) := by decide +kernel
theorem d_J_areAlike_86 : decode I_J_areAlike.2.1 86 = .ok (.if_icmp .ge 21, 3) := by decide +kernel
theorem d_J_areAlike_89 : decode I_J_areAlike.2.1 89 = .ok (.aload_n 0, 1) := by decide +kernel
theorem d_J_areAlike_90 : decode I_J_areAlike.2.1 90 = .ok (.getfield 85, 3) := by decide +kernel
theorem d_J_areAlike_93 : decode I_J_areAlike.2.1 93 = .ok (.iload 5, 2) := by decide +kernel
theorem d_J_areAlike_95 : decode I_J_areAlike.2.1 95 = .ok (.iaload, 1) := by decide +kernel
theorem d_J_areAlike_96 : decode I_J_areAlike.2.1 96 = .ok (.ifCond .eq 5, 3) := by decide +kernel
theorem d_J_areAlike_99 : decode I_J_areAlike.2.1 99 = .ok (.iconst 0, 1) := by decide +kernel
theorem d_J_areAlike_100 : decode I_J_areAlike.2.1 100 = .ok (.ireturn, 1) := by decide +kernel
theorem d_J_areAlike_101 : decode I_J_areAlike.2.1 101 = .ok (.iinc 5 1, 3) := by decide +kernel
theorem d_J_areAlike_104 : decode I_J_areAlike.2.1 104 = .ok (.goto (-25), 3) := by decide +kernel
theorem d_J_areAlike_107 : decode I_J_areAlike.2.1 107 = .ok (.iconst 1, 1) := by decide +kernel
theorem d_J_areAlike_108 : decode I_J_areAlike.2.1 108 = .ok (.ireturn, 1) := by decide +kernel
theorem d_J_tallyVisits_0 : decode I_J_tallyVisits.2.1 0 = .ok (.iconst 0, 1) := by decide +kernel
theorem d_J_tallyVisits_1 : decode I_J_tallyVisits.2.1 1 = .ok (.istore_n 3, 1) := by decide +kernel
theorem d_J_tallyVisits_2 : decode I_J_tallyVisits.2.1 2 = .ok (.aload_n 0, 1) := by decide +kernel
theorem d_J_tallyVisits_3 : decode I_J_tallyVisits.2.1 3 = .ok (.getfield 19, 3) := by decide +kernel
theorem d_J_tallyVisits_6 : decode I_J_tallyVisits.2.1 6 = .ok (.getfield 380, 3) := by decide +kernel
theorem d_J_tallyVisits_9 : decode I_J_tallyVisits.2.1 9 = .ok (.iload_n 1, 1) := by decide +kernel
theorem d_J_tallyVisits_10 : decode I_J_tallyVisits.2.1 10 = .ok (.iaload, 1) := by decide +kernel
theorem d_J_tallyVisits_11 : decode I_J_tallyVisits.2.1 11 = .ok (.istore 4, 2) := by decide +kernel
theorem d_J_tallyVisits_13 : decode I_J_tallyVisits.2.1 13 = .ok (.iload 4, 2) := by decide +kernel
theorem d_J_tallyVisits_15 : decode I_J_tallyVisits.2.1 15 = .ok (.aload_n 0, 1) := by decide +kernel
theorem d_J_tallyVisits_16 : decode I_J_tallyVisits.2.1 16 = .ok (.getfield 19, 3) := by decide +kernel
theorem d_J_tallyVisits_19 : decode I_J_tallyVisits.2.1 19 = .ok (.getfield 380, 3) := by decide +kernel
theorem d_J_tallyVisits_22 : decode I_J_tallyVisits.2.1 22 = .ok (.iload_n 1, 1) := by decide +kernel
theorem d_J_tallyVisits_23 : decode I_J_tallyVisits.2.1 23 = .ok (.iconst 1, 1) := by decide +kernel
theorem d_J_tallyVisits_24 : decode I_J_tallyVisits.2.1 24 = .ok (.iadd, 1) := by decide +kernel
theorem d_J_tallyVisits_25 : decode I_J_tallyVisits.2.1 25 = .ok (.iaload, 1) := by decide +kernel
theorem d_J_tallyVisits_26 : decode I_J_tallyVisits.2.1 26 = .ok (.if_icmp .ge 61, 3) := by decide +kernel
theorem d_J_tallyVisits_29 : decode I_J_tallyVisits.2.1 29 = .ok (.aload_n 0, 1) := by decide +kernel
theorem d_J_tallyVisits_30 : decode I_J_tallyVisits.2.1 30 = .ok (.getfield 19, 3) := by decide +kernel
theorem d_J_tallyVisits_33 : decode I_J_tallyVisits.2.1 33 = .ok (.iload 4, 2) := by decide +kernel
theorem d_J_tallyVisits_35 : decode I_J_tallyVisits.2.1 35 = .ok (.invokevirtual 383, 3) := by decide +kernel
theorem d_J_tallyVisits_38 : decode I_J_tallyVisits.2.1 38 = .ok (.istore 5, 2) := by decide +kernel
theorem d_J_tallyVisits_40 : decode I_J_tallyVisits.2.1 40 = .ok (.aload_n 0, 1) := by decide +kernel
theorem d_J_tallyVisits_41 : decode I_J_tallyVisits.2.1 41 = .ok (.getfield 12, 3) := by decide +kernel
theorem d_J_tallyVisits_44 : decode I_J_tallyVisits.2.1 44 = .ok (.iload 5, 2) := by decide +kernel
theorem d_J_tallyVisits_46 : decode I_J_tallyVisits.2.1 46 = .ok (.invokevirtual 101, 3) := by decide +kernel
theorem d_J_tallyVisits_49 : decode I_J_tallyVisits.2.1 49 = .ok (.ifCond .ne 6, 3) := by decide +kernel
theorem d_J_tallyVisits_52 : decode I_J_tallyVisits.2.1 52 = .ok (.goto 29, 3) := by decide +kernel
theorem d_J_tallyVisits_55 : decode I_J_tallyVisits.2.1 55 = .ok (.aload_n 0, 1) := by decide +kernel
theorem d_J_tallyVisits_56 : decode I_J_tallyVisits.2.1 56 = .ok (.getfield 85, 3) := by decide +kernel
theorem d_J_tallyVisits_59 : decode I_J_tallyVisits.2.1 59 = .ok (.iload 5, 2) := by decide +kernel
theorem d_J_tallyVisits_61 : decode I_J_tallyVisits.2.1 61 = .ok (.iconst 3, 1) := by decide +kernel
theorem d_J_tallyVisits_62 : decode I_J_tallyVisits.2.1 62 = .ok (.imul, 1) := by decide +kernel
theorem d_J_tallyVisits_63 : decode I_J_tallyVisits.2.1 63 = .ok (.aload_n 0, 1) := by decide +kernel
theorem d_J_tallyVisits_64 : decode I_J_tallyVisits.2.1 64 = .ok (.getfield 19, 3) := by decide +kernel
theorem d_J_tallyVisits_67 : decode I_J_tallyVisits.2.1 67 = .ok (.iload 4, 2) := by decide +kernel
theorem d_J_tallyVisits_69 : decode I_J_tallyVisits.2.1 69 = .ok (.invokevirtual 386, 3) := by decide +kernel
theorem d_J_tallyVisits_72 : decode I_J_tallyVisits.2.1 72 = .ok (.iadd, 1) := by decide +kernel
theorem d_J_tallyVisits_73 : decode I_J_tallyVisits.2.1 73 = .ok (.dup2, 1) := by decide +kernel
theorem d_J_tallyVisits_74 : decode I_J_tallyVisits.2.1 74 = .ok (.iaload, 1) := by decide +kernel
theorem d_J_tallyVisits_75 : decode I_J_tallyVisits.2.1 75 = .ok (.iload_n 2, 1) := by decide +kernel
theorem d_J_tallyVisits_76 : decode I_J_tallyVisits.2.1 76 = .ok (.iadd, 1) := by decide +kernel
theorem d_J_tallyVisits_77 : decode I_J_tallyVisits.2.1 77 = .ok (.iastore, 1) := by decide +kernel
theorem d_J_tallyVisits_78 : decode I_J_tallyVisits.2.1 78 = .ok (.iinc 3 1, 3) := by decide +kernel
theorem d_J_tallyVisits_81 : decode I_J_tallyVisits.2.1 81 = .ok (.iinc 4 1, 3) := by decide +kernel
theorem d_J_tallyVisits_84 : decode I_J_tallyVisits.2.1 84 = .ok (.goto (-71), 3) := by decide +kernel
theorem d_J_tallyVisits_87 : decode I_J_tallyVisits.2.1 87 = .ok (.iload_n 3, 1) := by decide +kernel
theorem d_J_tallyVisits_88 : decode I_J_tallyVisits.2.1 88 = .ok (.ireturn, 1) := by decide +kernel
theorem d_J_visitsThatCount_0 : decode I_J_visitsThatCount.2.1 0 = .ok (.iconst 0, 1) := by decide +kernel
theorem d_J_visitsThatCount_1 : decode I_J_visitsThatCount.2.1 1 = .ok (.istore_n 1, 1) := by decide +kernel
theorem d_J_visitsThatCount_2 : decode I_J_visitsThatCount.2.1 2 = .ok (.iconst 0, 1) := by decide +kernel
theorem d_J_visitsThatCount_3 : decode I_J_visitsThatCount.2.1 3 = .ok (.istore_n 2, 1) := by decide +kernel
theorem d_J_visitsThatCount_4 : decode I_J_visitsThatCount.2.1 4 = .ok (.iload_n 2, 1) := by decide +kernel
theorem d_J_visitsThatCount_5 : decode I_J_visitsThatCount.2.1 5 = .ok (.bipush 30, 2) := by decide +kernel
theorem d_J_visitsThatCount_7 : decode I_J_visitsThatCount.2.1 7 = .ok (.if_icmp .ge 31, 3) := by decide +kernel
theorem d_J_visitsThatCount_10 : decode I_J_visitsThatCount.2.1 10 = .ok (.aload_n 0, 1) := by decide +kernel
theorem d_J_visitsThatCount_11 : decode I_J_visitsThatCount.2.1 11 = .ok (.getfield 40, 3) := by decide +kernel
theorem d_J_visitsThatCount_14 : decode I_J_visitsThatCount.2.1 14 = .ok (.iload_n 2, 1) := by decide +kernel
theorem d_J_visitsThatCount_15 : decode I_J_visitsThatCount.2.1 15 = .ok (.invokevirtual 245, 3) := by decide +kernel
theorem d_J_visitsThatCount_18 : decode I_J_visitsThatCount.2.1 18 = .ok (.ifCond .eq 14, 3) := by decide +kernel
theorem d_J_visitsThatCount_21 : decode I_J_visitsThatCount.2.1 21 = .ok (.iload_n 1, 1) := by decide +kernel
theorem d_J_visitsThatCount_22 : decode I_J_visitsThatCount.2.1 22 = .ok (.aload_n 0, 1) := by decide +kernel
theorem d_J_visitsThatCount_23 : decode I_J_visitsThatCount.2.1 23 = .ok (.getfield 40, 3) := by decide +kernel
theorem d_J_visitsThatCount_26 : decode I_J_visitsThatCount.2.1 26 = .ok (.iload_n 2, 1) := by decide +kernel
theorem d_J_visitsThatCount_27 : decode I_J_visitsThatCount.2.1 27 = .ok (.invokevirtual 389, 3) := by decide +kernel
theorem d_J_visitsThatCount_30 : decode I_J_visitsThatCount.2.1 30 = .ok (.iadd, 1) := by decide +kernel
theorem d_J_visitsThatCount_31 : decode I_J_visitsThatCount.2.1 31 = .ok (.istore_n 1, 1) := by decide +kernel
theorem d_J_visitsThatCount_32 : decode I_J_visitsThatCount.2.1 32 = .ok (.iinc 2 1, 3) := by decide +kernel
theorem d_J_visitsThatCount_35 : decode I_J_visitsThatCount.2.1 35 = .ok (.goto (-31), 3) := by decide +kernel
theorem d_J_visitsThatCount_38 : decode I_J_visitsThatCount.2.1 38 = .ok (.iload_n 1, 1) := by decide +kernel
theorem d_J_visitsThatCount_39 : decode I_J_visitsThatCount.2.1 39 = .ok (.ireturn, 1) := by decide +kernel
theorem d_J_explains_0 : decode I_J_explains.2.1 0 = .ok (.aload_n 0, 1) := by decide +kernel
theorem d_J_explains_1 : decode I_J_explains.2.1 1 = .ok (.getfield 32, 3) := by decide +kernel
theorem d_J_explains_4 : decode I_J_explains.2.1 4 = .ok (.iconst 0, 1) := by decide +kernel
theorem d_J_explains_5 : decode I_J_explains.2.1 5 = .ok (.iload_n 1, 1) := by decide +kernel
theorem d_J_explains_6 : decode I_J_explains.2.1 6 = .ok (.bipush 100, 2) := by decide +kernel
theorem d_J_explains_8 : decode I_J_explains.2.1 8 = .ok (.idiv, 1) := by decide +kernel
theorem d_J_explains_9 : decode I_J_explains.2.1 9 = .ok (.iastore, 1) := by decide +kernel
theorem d_J_explains_10 : decode I_J_explains.2.1 10 = .ok (.aload_n 0, 1) := by decide +kernel
theorem d_J_explains_11 : decode I_J_explains.2.1 11 = .ok (.getfield 32, 3) := by decide +kernel
theorem d_J_explains_14 : decode I_J_explains.2.1 14 = .ok (.iconst 1, 1) := by decide +kernel
theorem d_J_explains_15 : decode I_J_explains.2.1 15 = .ok (.iload_n 1, 1) := by decide +kernel
theorem d_J_explains_16 : decode I_J_explains.2.1 16 = .ok (.bipush 10, 2) := by decide +kernel
theorem d_J_explains_18 : decode I_J_explains.2.1 18 = .ok (.idiv, 1) := by decide +kernel
theorem d_J_explains_19 : decode I_J_explains.2.1 19 = .ok (.bipush 10, 2) := by decide +kernel
theorem d_J_explains_21 : decode I_J_explains.2.1 21 = .ok (.irem, 1) := by decide +kernel
theorem d_J_explains_22 : decode I_J_explains.2.1 22 = .ok (.iastore, 1) := by decide +kernel
theorem d_J_explains_23 : decode I_J_explains.2.1 23 = .ok (.aload_n 0, 1) := by decide +kernel
theorem d_J_explains_24 : decode I_J_explains.2.1 24 = .ok (.getfield 32, 3) := by decide +kernel
theorem d_J_explains_27 : decode I_J_explains.2.1 27 = .ok (.iconst 2, 1) := by decide +kernel
theorem d_J_explains_28 : decode I_J_explains.2.1 28 = .ok (.iload_n 1, 1) := by decide +kernel
theorem d_J_explains_29 : decode I_J_explains.2.1 29 = .ok (.bipush 10, 2) := by decide +kernel
theorem d_J_explains_31 : decode I_J_explains.2.1 31 = .ok (.irem, 1) := by decide +kernel
theorem d_J_explains_32 : decode I_J_explains.2.1 32 = .ok (.iastore, 1) := by decide +kernel
theorem d_J_explains_33 : decode I_J_explains.2.1 33 = .ok (.aload_n 0, 1) := by decide +kernel
theorem d_J_explains_34 : decode I_J_explains.2.1 34 = .ok (.aload_n 0, 1) := by decide +kernel
theorem d_J_explains_35 : decode I_J_explains.2.1 35 = .ok (.getfield 32, 3) := by decide +kernel
theorem d_J_explains_38 : decode I_J_explains.2.1 38 = .ok (.iconst (-1), 1) := by decide +kernel
theorem d_J_explains_39 : decode I_J_explains.2.1 39 = .ok (.invokevirtual 219, 3) := by decide +kernel
theorem d_J_explains_42 : decode I_J_explains.2.1 42 = .ok (.ireturn, 1) := by decide +kernel
theorem d_J_comesOut_0 : decode I_J_comesOut.2.1 0 = .ok (.aload_n 0, 1) := by decide +kernel
theorem d_J_comesOut_1 : decode I_J_comesOut.2.1 1 = .ok (.getfield 47, 3) := by decide +kernel
theorem d_J_comesOut_4 : decode I_J_comesOut.2.1 4 = .ok (.getfield 392, 3) := by decide +kernel
theorem d_J_comesOut_7 : decode I_J_comesOut.2.1 7 = .ok (.ifCond .eq 5, 3) := by decide +kernel
theorem d_J_comesOut_10 : decode I_J_comesOut.2.1 10 = .ok (.iconst 0, 1) := by decide +kernel
theorem d_J_comesOut_11 : decode I_J_comesOut.2.1 11 = .ok (.ireturn, 1) := by decide +kernel
theorem d_J_comesOut_12 : decode I_J_comesOut.2.1 12 = .ok (.aload_n 0, 1) := by decide +kernel
theorem d_J_comesOut_13 : decode I_J_comesOut.2.1 13 = .ok (.getfield 40, 3) := by decide +kernel
theorem d_J_comesOut_16 : decode I_J_comesOut.2.1 16 = .ok (.getfield 237, 3) := by decide +kernel
theorem d_J_comesOut_19 : decode I_J_comesOut.2.1 19 = .ok (.iconst 0, 1) := by decide +kernel
theorem d_J_comesOut_20 : decode I_J_comesOut.2.1 20 = .ok (.aaload, 1) := by decide +kernel
theorem d_J_comesOut_21 : decode I_J_comesOut.2.1 21 = .ok (.astore_n 3, 1) := by decide +kernel
theorem d_J_comesOut_22 : decode I_J_comesOut.2.1 22 = .ok (.aload_n 3, 1) := by decide +kernel
theorem d_J_comesOut_23 : decode I_J_comesOut.2.1 23 = .ok (.aload_n 1, 1) := by decide +kernel
theorem d_J_comesOut_24 : decode I_J_comesOut.2.1 24 = .ok (.iload_n 2, 1) := by decide +kernel
theorem d_J_comesOut_25 : decode I_J_comesOut.2.1 25 = .ok (.invokevirtual 241, 3) := by decide +kernel
theorem d_J_comesOut_28 : decode I_J_comesOut.2.1 28 = .ok (.iconst 0, 1) := by decide +kernel
theorem d_J_comesOut_29 : decode I_J_comesOut.2.1 29 = .ok (.istore 4, 2) := by decide +kernel
theorem d_J_comesOut_31 : decode I_J_comesOut.2.1 31 = .ok (.iload 4, 2) := by decide +kernel
theorem d_J_comesOut_33 : decode I_J_comesOut.2.1 33 = .ok (.aload_n 0, 1) := by decide +kernel
theorem d_J_comesOut_34 : decode I_J_comesOut.2.1 34 = .ok (.getfield 47, 3) := by decide +kernel
theorem d_J_comesOut_37 : decode I_J_comesOut.2.1 37 = .ok (.getfield 396, 3) := by decide +kernel
theorem d_J_comesOut_40 : decode I_J_comesOut.2.1 40 = .ok (.if_icmp .gt 37, 3) := by decide +kernel
theorem d_J_comesOut_43 : decode I_J_comesOut.2.1 43 = .ok (.aload_n 0, 1) := by decide +kernel
theorem d_J_comesOut_44 : decode I_J_comesOut.2.1 44 = .ok (.getfield 40, 3) := by decide +kernel
theorem d_J_comesOut_47 : decode I_J_comesOut.2.1 47 = .ok (.aload_n 3, 1) := by decide +kernel
theorem d_J_comesOut_48 : decode I_J_comesOut.2.1 48 = .ok (.iload 4, 2) := by decide +kernel
theorem d_J_comesOut_50 : decode I_J_comesOut.2.1 50 = .ok (.invokevirtual 374, 3) := by decide +kernel
theorem d_J_comesOut_53 : decode I_J_comesOut.2.1 53 = .ok (.aload_n 0, 1) := by decide +kernel
theorem d_J_comesOut_54 : decode I_J_comesOut.2.1 54 = .ok (.getfield 47, 3) := by decide +kernel
theorem d_J_comesOut_57 : decode I_J_comesOut.2.1 57 = .ok (.iload 4, 2) := by decide +kernel
theorem d_J_comesOut_59 : decode I_J_comesOut.2.1 59 = .ok (.aload_n 3, 1) := by decide +kernel
theorem d_J_comesOut_60 : decode I_J_comesOut.2.1 60 = .ok (.getfield 159, 3) := by decide +kernel
theorem d_J_comesOut_63 : decode I_J_comesOut.2.1 63 = .ok (.invokevirtual 399, 3) := by decide +kernel
theorem d_J_comesOut_66 : decode I_J_comesOut.2.1 66 = .ok (.ifCond .ne 5, 3) := by decide +kernel
theorem d_J_comesOut_69 : decode I_J_comesOut.2.1 69 = .ok (.iconst 0, 1) := by decide +kernel
theorem d_J_comesOut_70 : decode I_J_comesOut.2.1 70 = .ok (.ireturn, 1) := by decide +kernel
theorem d_J_comesOut_71 : decode I_J_comesOut.2.1 71 = .ok (.iinc 4 1, 3) := by decide +kernel
theorem d_J_comesOut_74 : decode I_J_comesOut.2.1 74 = .ok (.goto (-43), 3) := by decide +kernel
theorem d_J_comesOut_77 : decode I_J_comesOut.2.1 77 = .ok (.iconst 1, 1) := by decide +kernel
theorem d_J_comesOut_78 : decode I_J_comesOut.2.1 78 = .ok (.ireturn, 1) := by decide +kernel
theorem d_J_tallyFindings_0 : decode I_J_tallyFindings.2.1 0 = .ok (.aload_n 0, 1) := by decide +kernel
theorem d_J_tallyFindings_1 : decode I_J_tallyFindings.2.1 1 = .ok (.getfield 40, 3) := by decide +kernel
theorem d_J_tallyFindings_4 : decode I_J_tallyFindings.2.1 4 = .ok (.getfield 237, 3) := by decide +kernel
theorem d_J_tallyFindings_7 : decode I_J_tallyFindings.2.1 7 = .ok (.iconst 0, 1) := by decide +kernel
theorem d_J_tallyFindings_8 : decode I_J_tallyFindings.2.1 8 = .ok (.aaload, 1) := by decide +kernel
theorem d_J_tallyFindings_9 : decode I_J_tallyFindings.2.1 9 = .ok (.astore_n 3, 1) := by decide +kernel
theorem d_J_tallyFindings_10 : decode I_J_tallyFindings.2.1 10 = .ok (.aload_n 0, 1) := by decide +kernel
theorem d_J_tallyFindings_11 : decode I_J_tallyFindings.2.1 11 = .ok (.getfield 40, 3) := by decide +kernel
theorem d_J_tallyFindings_14 : decode I_J_tallyFindings.2.1 14 = .ok (.getfield 237, 3) := by decide +kernel
theorem d_J_tallyFindings_17 : decode I_J_tallyFindings.2.1 17 = .ok (.iconst 1, 1) := by decide +kernel
theorem d_J_tallyFindings_18 : decode I_J_tallyFindings.2.1 18 = .ok (.aaload, 1) := by decide +kernel
theorem d_J_tallyFindings_19 : decode I_J_tallyFindings.2.1 19 = .ok (.astore 4, 2) := by decide +kernel
theorem d_J_tallyFindings_21 : decode I_J_tallyFindings.2.1 21 = .ok (.aload_n 0, 1) := by decide +kernel
theorem d_J_tallyFindings_22 : decode I_J_tallyFindings.2.1 22 = .ok (.getfield 40, 3) := by decide +kernel
theorem d_J_tallyFindings_25 : decode I_J_tallyFindings.2.1 25 = .ok (.iload_n 1, 1) := by decide +kernel
theorem d_J_tallyFindings_26 : decode I_J_tallyFindings.2.1 26 = .ok (.invokevirtual 245, 3) := by decide +kernel
theorem d_J_tallyFindings_29 : decode I_J_tallyFindings.2.1 29 = .ok (.istore 5, 2) := by decide +kernel
theorem d_J_tallyFindings_31 : decode I_J_tallyFindings.2.1 31 = .ok (.aload_n 3, 1) := by decide +kernel
theorem d_J_tallyFindings_32 : decode I_J_tallyFindings.2.1 32 = .ok (.aload_n 0, 1) := by decide +kernel
theorem d_J_tallyFindings_33 : decode I_J_tallyFindings.2.1 33 = .ok (.getfield 32, 3) := by decide +kernel
theorem d_J_tallyFindings_36 : decode I_J_tallyFindings.2.1 36 = .ok (.iconst (-1), 1) := by decide +kernel
theorem d_J_tallyFindings_37 : decode I_J_tallyFindings.2.1 37 = .ok (.invokevirtual 241, 3) := by decide +kernel
theorem d_J_tallyFindings_40 : decode I_J_tallyFindings.2.1 40 = .ok (.iconst 0, 1) := by decide +kernel
theorem d_J_tallyFindings_41 : decode I_J_tallyFindings.2.1 41 = .ok (.istore 6, 2) := by decide +kernel
theorem d_J_tallyFindings_43 : decode I_J_tallyFindings.2.1 43 = .ok (.iload 6, 2) := by decide +kernel
theorem d_J_tallyFindings_45 : decode I_J_tallyFindings.2.1 45 = .ok (.iload_n 1, 1) := by decide +kernel
theorem d_J_tallyFindings_46 : decode I_J_tallyFindings.2.1 46 = .ok (.if_icmp .ge 19, 3) := by decide +kernel
theorem d_J_tallyFindings_49 : decode I_J_tallyFindings.2.1 49 = .ok (.aload_n 0, 1) := by decide +kernel
theorem d_J_tallyFindings_50 : decode I_J_tallyFindings.2.1 50 = .ok (.getfield 40, 3) := by decide +kernel
theorem d_J_tallyFindings_53 : decode I_J_tallyFindings.2.1 53 = .ok (.aload_n 3, 1) := by decide +kernel
theorem d_J_tallyFindings_54 : decode I_J_tallyFindings.2.1 54 = .ok (.iload 6, 2) := by decide +kernel
theorem d_J_tallyFindings_56 : decode I_J_tallyFindings.2.1 56 = .ok (.invokevirtual 374, 3) := by decide +kernel
theorem d_J_tallyFindings_59 : decode I_J_tallyFindings.2.1 59 = .ok (.iinc 6 1, 3) := by decide +kernel
theorem d_J_tallyFindings_62 : decode I_J_tallyFindings.2.1 62 = .ok (.goto (-19), 3) := by decide +kernel
theorem d_J_tallyFindings_65 : decode I_J_tallyFindings.2.1 65 = .ok (.iload 5, 2) := by decide +kernel
theorem d_J_tallyFindings_67 : decode I_J_tallyFindings.2.1 67 = .ok (.ifCond .eq 12, 3) := by decide +kernel
theorem d_J_tallyFindings_70 : decode I_J_tallyFindings.2.1 70 = .ok (.aload_n 0, 1) := by decide +kernel
theorem d_J_tallyFindings_71 : decode I_J_tallyFindings.2.1 71 = .ok (.getfield 40, 3) := by decide +kernel
theorem d_J_tallyFindings_74 : decode I_J_tallyFindings.2.1 74 = .ok (.aload_n 3, 1) := by decide +kernel
theorem d_J_tallyFindings_75 : decode I_J_tallyFindings.2.1 75 = .ok (.iload_n 1, 1) := by decide +kernel
theorem d_J_tallyFindings_76 : decode I_J_tallyFindings.2.1 76 = .ok (.invokevirtual 248, 3) := by decide +kernel
theorem d_J_tallyFindings_79 : decode I_J_tallyFindings.2.1 79 = .ok (.iconst 0, 1) := by decide +kernel
theorem d_J_tallyFindings_80 : decode I_J_tallyFindings.2.1 80 = .ok (.istore 6, 2) := by decide +kernel
theorem d_J_tallyFindings_82 : decode I_J_tallyFindings.2.1 82 = .ok (.iload 6, 2) := by decide +kernel
theorem d_J_tallyFindings_84 : decode I_J_tallyFindings.2.1 84 = .ok (.iconst 3, 1) := by decide +kernel
theorem d_J_tallyFindings_85 : decode I_J_tallyFindings.2.1 85 = .ok (.if_icmp .ge 64, 3) := by decide +kernel
theorem d_J_tallyFindings_88 : decode I_J_tallyFindings.2.1 88 = .ok (.aload 4, 2) := by decide +kernel
theorem d_J_tallyFindings_90 : decode I_J_tallyFindings.2.1 90 = .ok (.aload_n 3, 1) := by decide +kernel
theorem d_J_tallyFindings_91 : decode I_J_tallyFindings.2.1 91 = .ok (.invokevirtual 402, 3) := by decide +kernel
theorem d_J_tallyFindings_94 : decode I_J_tallyFindings.2.1 94 = .ok (.iload 5, 2) := by decide +kernel
theorem d_J_tallyFindings_96 : decode I_J_tallyFindings.2.1 96 = .ok (.ifCond .eq 16, 3) := by decide +kernel
theorem d_J_tallyFindings_99 : decode I_J_tallyFindings.2.1 99 = .ok (.aload_n 0, 1) := by decide +kernel
theorem d_J_tallyFindings_100 : decode I_J_tallyFindings.2.1 100 = .ok (.getfield 40, 3) := by decide +kernel
theorem d_J_tallyFindings_103 : decode I_J_tallyFindings.2.1 103 = .ok (.aload 4, 2) := by decide +kernel
theorem d_J_tallyFindings_105 : decode I_J_tallyFindings.2.1 105 = .ok (.iload_n 1, 1) := by decide +kernel
theorem d_J_tallyFindings_106 : decode I_J_tallyFindings.2.1 106 = .ok (.iload_n 2, 1) := by decide +kernel
theorem d_J_tallyFindings_107 : decode I_J_tallyFindings.2.1 107 = .ok (.iload 6, 2) := by decide +kernel
theorem d_J_tallyFindings_109 : decode I_J_tallyFindings.2.1 109 = .ok (.invokevirtual 255, 3) := by decide +kernel
theorem d_J_tallyFindings_112 : decode I_J_tallyFindings.2.1 112 = .ok (.aload_n 0, 1) := by decide +kernel
theorem d_J_tallyFindings_113 : decode I_J_tallyFindings.2.1 113 = .ok (.getfield 40, 3) := by decide +kernel
theorem d_J_tallyFindings_116 : decode I_J_tallyFindings.2.1 116 = .ok (.aload 4, 2) := by decide +kernel
theorem d_J_tallyFindings_118 : decode I_J_tallyFindings.2.1 118 = .ok (.invokevirtual 259, 3) := by decide +kernel
theorem d_J_tallyFindings_121 : decode I_J_tallyFindings.2.1 121 = .ok (.aload_n 0, 1) := by decide +kernel
theorem d_J_tallyFindings_122 : decode I_J_tallyFindings.2.1 122 = .ok (.getfield 85, 3) := by decide +kernel
theorem d_J_tallyFindings_125 : decode I_J_tallyFindings.2.1 125 = .ok (.iload 6, 2) := by decide +kernel
theorem d_J_tallyFindings_127 : decode I_J_tallyFindings.2.1 127 = .ok (.bipush 7, 2) := by decide +kernel
theorem d_J_tallyFindings_129 : decode I_J_tallyFindings.2.1 129 = .ok (.imul, 1) := by decide +kernel
theorem d_J_tallyFindings_130 : decode I_J_tallyFindings.2.1 130 = .ok (.aload 4, 2) := by decide +kernel
theorem d_J_tallyFindings_132 : decode I_J_tallyFindings.2.1 132 = .ok (.getfield 159, 3) := by decide +kernel
theorem d_J_tallyFindings_135 : decode I_J_tallyFindings.2.1 135 = .ok (.iadd, 1) := by decide +kernel
theorem d_J_tallyFindings_136 : decode I_J_tallyFindings.2.1 136 = .ok (.iconst 1, 1) := by decide +kernel
theorem d_J_tallyFindings_137 : decode I_J_tallyFindings.2.1 137 = .ok (.iadd, 1) := by decide +kernel
theorem d_J_tallyFindings_138 : decode I_J_tallyFindings.2.1 138 = .ok (.dup2, 1) := by decide +kernel
theorem d_J_tallyFindings_139 : decode I_J_tallyFindings.2.1 139 = .ok (.iaload, 1) := by decide +kernel
theorem d_J_tallyFindings_140 : decode I_J_tallyFindings.2.1 140 = .ok (.iconst 1, 1) := by decide +kernel
theorem d_J_tallyFindings_141 : decode I_J_tallyFindings.2.1 141 = .ok (.iadd, 1) := by decide +kernel
theorem d_J_tallyFindings_142 : decode I_J_tallyFindings.2.1 142 = .ok (.iastore, 1) := by decide +kernel
theorem d_J_tallyFindings_143 : decode I_J_tallyFindings.2.1 143 = .ok (.iinc 6 1, 3) := by decide +kernel
theorem d_J_tallyFindings_146 : decode I_J_tallyFindings.2.1 146 = .ok (.goto (-64), 3) := by decide +kernel
theorem d_J_tallyFindings_149 : decode I_J_tallyFindings.2.1 149 = .ok (.return_, 1) := by decide +kernel
theorem d_J_greatestTally_0 : decode I_J_greatestTally.2.1 0 = .ok (.iconst 0, 1) := by decide +kernel
theorem d_J_greatestTally_1 : decode I_J_greatestTally.2.1 1 = .ok (.istore_n 2, 1) := by decide +kernel
theorem d_J_greatestTally_2 : decode I_J_greatestTally.2.1 2 = .ok (.iconst 0, 1) := by decide +kernel
theorem d_J_greatestTally_3 : decode I_J_greatestTally.2.1 3 = .ok (.istore_n 3, 1) := by decide +kernel
theorem d_J_greatestTally_4 : decode I_J_greatestTally.2.1 4 = .ok (.iload_n 3, 1) := by decide +kernel
theorem d_J_greatestTally_5 : decode I_J_greatestTally.2.1 5 = .ok (.bipush 6, 2) := by decide +kernel
theorem d_J_greatestTally_7 : decode I_J_greatestTally.2.1 7 = .ok (.if_icmp .gt 25, 3) := by decide +kernel
theorem d_J_greatestTally_10 : decode I_J_greatestTally.2.1 10 = .ok (.iload_n 2, 1) := by decide +kernel
theorem d_J_greatestTally_11 : decode I_J_greatestTally.2.1 11 = .ok (.aload_n 0, 1) := by decide +kernel
theorem d_J_greatestTally_12 : decode I_J_greatestTally.2.1 12 = .ok (.getfield 85, 3) := by decide +kernel
theorem d_J_greatestTally_15 : decode I_J_greatestTally.2.1 15 = .ok (.iload_n 1, 1) := by decide +kernel
theorem d_J_greatestTally_16 : decode I_J_greatestTally.2.1 16 = .ok (.bipush 7, 2) := by decide +kernel
theorem d_J_greatestTally_18 : decode I_J_greatestTally.2.1 18 = .ok (.imul, 1) := by decide +kernel
theorem d_J_greatestTally_19 : decode I_J_greatestTally.2.1 19 = .ok (.iload_n 3, 1) := by decide +kernel
theorem d_J_greatestTally_20 : decode I_J_greatestTally.2.1 20 = .ok (.iadd, 1) := by decide +kernel
theorem d_J_greatestTally_21 : decode I_J_greatestTally.2.1 21 = .ok (.iaload, 1) := by decide +kernel
theorem d_J_greatestTally_22 : decode I_J_greatestTally.2.1 22 = .ok (.invokestatic 405, 3) := by decide +kernel
theorem d_J_greatestTally_25 : decode I_J_greatestTally.2.1 25 = .ok (.istore_n 2, 1) := by decide +kernel
theorem d_J_greatestTally_26 : decode I_J_greatestTally.2.1 26 = .ok (.iinc 3 1, 3) := by decide +kernel
theorem d_J_greatestTally_29 : decode I_J_greatestTally.2.1 29 = .ok (.goto (-25), 3) := by decide +kernel
theorem d_J_greatestTally_32 : decode I_J_greatestTally.2.1 32 = .ok (.iload_n 2, 1) := by decide +kernel
theorem d_J_greatestTally_33 : decode I_J_greatestTally.2.1 33 = .ok (.ireturn, 1) := by decide +kernel
