theorem dX8_check_26 : decode cX8_check 26 = .ok (.goto 4, 3) := by decide +kernel
theorem dX8_check_29 : decode cX8_check 29 = .ok (.iconst (-1), 1) := by decide +kernel
theorem dX8_check_30 : decode cX8_check 30 = .ok (.ireturn, 1) := by decide +kernel
theorem dX8_missed_0 : decode cX8_missed 0 = .ok (.aload_n 0, 1) := by decide +kernel
theorem dX8_missed_1 : decode cX8_missed 1 = .ok (.iload_n 1, 1) := by decide +kernel
theorem dX8_missed_2 : decode cX8_missed 2 = .ok (.invokevirtual 84, 3) := by decide +kernel
theorem dX8_missed_5 : decode cX8_missed 5 = .ok (.ifCond .eq 25, 3) := by decide +kernel
theorem dX8_missed_8 : decode cX8_missed 8 = .ok (.iload_n 2, 1) := by decide +kernel
theorem dX8_missed_9 : decode cX8_missed 9 = .ok (.i2l, 1) := by decide +kernel
theorem dX8_missed_10 : decode cX8_missed 10 = .ok (.lconst 0, 1) := by decide +kernel
theorem dX8_missed_11 : decode cX8_missed 11 = .ok (.ldc2_w 68, 3) := by decide +kernel
theorem dX8_missed_14 : decode cX8_missed 14 = .ok (.invokestatic 33, 3) := by decide +kernel
theorem dX8_missed_17 : decode cX8_missed 17 = .ok (.ifCond .eq 13, 3) := by decide +kernel
theorem dX8_missed_20 : decode cX8_missed 20 = .ok (.iload_n 3, 1) := by decide +kernel
theorem dX8_missed_21 : decode cX8_missed 21 = .ok (.i2l, 1) := by decide +kernel
theorem dX8_missed_22 : decode cX8_missed 22 = .ok (.lconst 0, 1) := by decide +kernel
theorem dX8_missed_23 : decode cX8_missed 23 = .ok (.lconst 1, 1) := by decide +kernel
theorem dX8_missed_24 : decode cX8_missed 24 = .ok (.invokestatic 33, 3) := by decide +kernel
theorem dX8_missed_27 : decode cX8_missed 27 = .ok (.ifCond .ne 5, 3) := by decide +kernel
theorem dX8_missed_30 : decode cX8_missed 30 = .ok (.iconst (-1), 1) := by decide +kernel
theorem dX8_missed_31 : decode cX8_missed 31 = .ok (.ireturn, 1) := by decide +kernel
theorem dX8_missed_32 : decode cX8_missed 32 = .ok (.aload_n 0, 1) := by decide +kernel
theorem dX8_missed_33 : decode cX8_missed 33 = .ok (.iload_n 1, 1) := by decide +kernel
theorem dX8_missed_34 : decode cX8_missed 34 = .ok (.iload_n 2, 1) := by decide +kernel
theorem dX8_missed_35 : decode cX8_missed 35 = .ok (.invokevirtual 110, 3) := by decide +kernel
theorem dX8_missed_38 : decode cX8_missed 38 = .ok (.istore 4, 2) := by decide +kernel
theorem dX8_missed_40 : decode cX8_missed 40 = .ok (.iconst 0, 1) := by decide +kernel
theorem dX8_missed_41 : decode cX8_missed 41 = .ok (.istore 5, 2) := by decide +kernel
theorem dX8_missed_43 : decode cX8_missed 43 = .ok (.iload_n 3, 1) := by decide +kernel
theorem dX8_missed_44 : decode cX8_missed 44 = .ok (.iconst 1, 1) := by decide +kernel
theorem dX8_missed_45 : decode cX8_missed 45 = .ok (.if_icmp .ne 109, 3) := by decide +kernel
theorem dX8_missed_48 : decode cX8_missed 48 = .ok (.iload_n 2, 1) := by decide +kernel
theorem dX8_missed_49 : decode cX8_missed 49 = .ok (.bipush 100, 2) := by decide +kernel
theorem dX8_missed_51 : decode cX8_missed 51 = .ok (.idiv, 1) := by decide +kernel
theorem dX8_missed_52 : decode cX8_missed 52 = .ok (.istore 6, 2) := by decide +kernel
theorem dX8_missed_54 : decode cX8_missed 54 = .ok (.iload_n 2, 1) := by decide +kernel
theorem dX8_missed_55 : decode cX8_missed 55 = .ok (.bipush 10, 2) := by decide +kernel
theorem dX8_missed_57 : decode cX8_missed 57 = .ok (.idiv, 1) := by decide +kernel
theorem dX8_missed_58 : decode cX8_missed 58 = .ok (.bipush 10, 2) := by decide +kernel
theorem dX8_missed_60 : decode cX8_missed 60 = .ok (.irem, 1) := by decide +kernel
theorem dX8_missed_61 : decode cX8_missed 61 = .ok (.istore 7, 2) := by decide +kernel
theorem dX8_missed_63 : decode cX8_missed 63 = .ok (.iload_n 2, 1) := by decide +kernel
theorem dX8_missed_64 : decode cX8_missed 64 = .ok (.bipush 10, 2) := by decide +kernel
theorem dX8_missed_66 : decode cX8_missed 66 = .ok (.irem, 1) := by decide +kernel
theorem dX8_missed_67 : decode cX8_missed 67 = .ok (.istore 8, 2) := by decide +kernel
theorem dX8_missed_69 : decode cX8_missed 69 = .ok (.iload 5, 2) := by decide +kernel
theorem dX8_missed_71 : decode cX8_missed 71 = .ok (.iload 6, 2) := by decide +kernel
theorem dX8_missed_73 : decode cX8_missed 73 = .ok (.iload 7, 2) := by decide +kernel
theorem dX8_missed_75 : decode cX8_missed 75 = .ok (.if_icmp .eq 31, 3) := by decide +kernel
theorem dX8_missed_78 : decode cX8_missed 78 = .ok (.aload_n 0, 1) := by decide +kernel
theorem dX8_missed_79 : decode cX8_missed 79 = .ok (.iload_n 1, 1) := by decide +kernel
theorem dX8_missed_80 : decode cX8_missed 80 = .ok (.bipush 100, 2) := by decide +kernel
theorem dX8_missed_82 : decode cX8_missed 82 = .ok (.iload 7, 2) := by decide +kernel
theorem dX8_missed_84 : decode cX8_missed 84 = .ok (.imul, 1) := by decide +kernel
theorem dX8_missed_85 : decode cX8_missed 85 = .ok (.bipush 10, 2) := by decide +kernel
theorem dX8_missed_87 : decode cX8_missed 87 = .ok (.iload 6, 2) := by decide +kernel
theorem dX8_missed_89 : decode cX8_missed 89 = .ok (.imul, 1) := by decide +kernel
theorem dX8_missed_90 : decode cX8_missed 90 = .ok (.iadd, 1) := by decide +kernel
theorem dX8_missed_91 : decode cX8_missed 91 = .ok (.iload 8, 2) := by decide +kernel
theorem dX8_missed_93 : decode cX8_missed 93 = .ok (.iadd, 1) := by decide +kernel
theorem dX8_missed_94 : decode cX8_missed 94 = .ok (.invokevirtual 110, 3) := by decide +kernel
theorem dX8_missed_97 : decode cX8_missed 97 = .ok (.iload 4, 2) := by decide +kernel
theorem dX8_missed_99 : decode cX8_missed 99 = .ok (.if_icmp .ne 7, 3) := by decide +kernel
theorem dX8_missed_102 : decode cX8_missed 102 = .ok (.iconst 1, 1) := by decide +kernel
theorem dX8_missed_103 : decode cX8_missed 103 = .ok (.goto 4, 3) := by decide +kernel
theorem dX8_missed_106 : decode cX8_missed 106 = .ok (.iconst 0, 1) := by decide +kernel
theorem dX8_missed_107 : decode cX8_missed 107 = .ok (.iadd, 1) := by decide +kernel
theorem dX8_missed_108 : decode cX8_missed 108 = .ok (.istore 5, 2) := by decide +kernel
theorem dX8_missed_110 : decode cX8_missed 110 = .ok (.iload 5, 2) := by decide +kernel
theorem dX8_missed_112 : decode cX8_missed 112 = .ok (.iload 7, 2) := by decide +kernel
theorem dX8_missed_114 : decode cX8_missed 114 = .ok (.iload 8, 2) := by decide +kernel
theorem dX8_missed_116 : decode cX8_missed 116 = .ok (.if_icmp .eq 31, 3) := by decide +kernel
theorem dX8_missed_119 : decode cX8_missed 119 = .ok (.aload_n 0, 1) := by decide +kernel
theorem dX8_missed_120 : decode cX8_missed 120 = .ok (.iload_n 1, 1) := by decide +kernel
theorem dX8_missed_121 : decode cX8_missed 121 = .ok (.bipush 100, 2) := by decide +kernel
theorem dX8_missed_123 : decode cX8_missed 123 = .ok (.iload 6, 2) := by decide +kernel
theorem dX8_missed_125 : decode cX8_missed 125 = .ok (.imul, 1) := by decide +kernel
theorem dX8_missed_126 : decode cX8_missed 126 = .ok (.bipush 10, 2) := by decide +kernel
theorem dX8_missed_128 : decode cX8_missed 128 = .ok (.iload 8, 2) := by decide +kernel
theorem dX8_missed_130 : decode cX8_missed 130 = .ok (.imul, 1) := by decide +kernel
theorem dX8_missed_131 : decode cX8_missed 131 = .ok (.iadd, 1) := by decide +kernel
theorem dX8_missed_132 : decode cX8_missed 132 = .ok (.iload 7, 2) := by decide +kernel
theorem dX8_missed_134 : decode cX8_missed 134 = .ok (.iadd, 1) := by decide +kernel
theorem dX8_missed_135 : decode cX8_missed 135 = .ok (.invokevirtual 110, 3) := by decide +kernel
theorem dX8_missed_138 : decode cX8_missed 138 = .ok (.iload 4, 2) := by decide +kernel
theorem dX8_missed_140 : decode cX8_missed 140 = .ok (.if_icmp .ne 7, 3) := by decide +kernel
theorem dX8_missed_143 : decode cX8_missed 143 = .ok (.iconst 1, 1) := by decide +kernel
theorem dX8_missed_144 : decode cX8_missed 144 = .ok (.goto 4, 3) := by decide +kernel
theorem dX8_missed_147 : decode cX8_missed 147 = .ok (.iconst 0, 1) := by decide +kernel
theorem dX8_missed_148 : decode cX8_missed 148 = .ok (.iadd, 1) := by decide +kernel
theorem dX8_missed_149 : decode cX8_missed 149 = .ok (.istore 5, 2) := by decide +kernel
theorem dX8_missed_151 : decode cX8_missed 151 = .ok (.iload 5, 2) := by decide +kernel
theorem dX8_missed_153 : decode cX8_missed 153 = .ok (.ireturn, 1) := by decide +kernel
theorem dX8_missed_154 : decode cX8_missed 154 = .ok (.iconst 1, 1) := by decide +kernel
theorem dX8_missed_155 : decode cX8_missed 155 = .ok (.istore 6, 2) := by decide +kernel
theorem dX8_missed_157 : decode cX8_missed 157 = .ok (.iload 6, 2) := by decide +kernel
theorem dX8_missed_159 : decode cX8_missed 159 = .ok (.sipush 1000, 3) := by decide +kernel
theorem dX8_missed_162 : decode cX8_missed 162 = .ok (.if_icmp .ge 74, 3) := by decide +kernel
theorem dX8_missed_165 : decode cX8_missed 165 = .ok (.iconst 0, 1) := by decide +kernel
theorem dX8_missed_166 : decode cX8_missed 166 = .ok (.istore 7, 2) := by decide +kernel
theorem dX8_missed_168 : decode cX8_missed 168 = .ok (.iload 7, 2) := by decide +kernel
theorem dX8_missed_170 : decode cX8_missed 170 = .ok (.bipush 10, 2) := by decide +kernel
theorem dX8_missed_172 : decode cX8_missed 172 = .ok (.if_icmp .ge 54, 3) := by decide +kernel
theorem dX8_missed_175 : decode cX8_missed 175 = .ok (.iload_n 2, 1) := by decide +kernel
theorem dX8_missed_176 : decode cX8_missed 176 = .ok (.iload 7, 2) := by decide +kernel
theorem dX8_missed_178 : decode cX8_missed 178 = .ok (.iload_n 2, 1) := by decide +kernel
theorem dX8_missed_179 : decode cX8_missed 179 = .ok (.iload 6, 2) := by decide +kernel
theorem dX8_missed_181 : decode cX8_missed 181 = .ok (.idiv, 1) := by decide +kernel
theorem dX8_missed_182 : decode cX8_missed 182 = .ok (.bipush 10, 2) := by decide +kernel
theorem dX8_missed_184 : decode cX8_missed 184 = .ok (.irem, 1) := by decide +kernel
theorem dX8_missed_185 : decode cX8_missed 185 = .ok (.isub, 1) := by decide +kernel
theorem dX8_missed_186 : decode cX8_missed 186 = .ok (.iload 6, 2) := by decide +kernel
theorem dX8_missed_188 : decode cX8_missed 188 = .ok (.imul, 1) := by decide +kernel
theorem dX8_missed_189 : decode cX8_missed 189 = .ok (.iadd, 1) := by decide +kernel
theorem dX8_missed_190 : decode cX8_missed 190 = .ok (.istore 8, 2) := by decide +kernel
theorem dX8_missed_192 : decode cX8_missed 192 = .ok (.iload 5, 2) := by decide +kernel
theorem dX8_missed_194 : decode cX8_missed 194 = .ok (.iload 8, 2) := by decide +kernel
theorem dX8_missed_196 : decode cX8_missed 196 = .ok (.iload_n 2, 1) := by decide +kernel
theorem dX8_missed_197 : decode cX8_missed 197 = .ok (.if_icmp .eq 19, 3) := by decide +kernel
theorem dX8_missed_200 : decode cX8_missed 200 = .ok (.aload_n 0, 1) := by decide +kernel
theorem dX8_missed_201 : decode cX8_missed 201 = .ok (.iload_n 1, 1) := by decide +kernel
theorem dX8_missed_202 : decode cX8_missed 202 = .ok (.iload 8, 2) := by decide +kernel
theorem dX8_missed_204 : decode cX8_missed 204 = .ok (.invokevirtual 110, 3) := by decide +kernel
theorem dX8_missed_207 : decode cX8_missed 207 = .ok (.iload 4, 2) := by decide +kernel
theorem dX8_missed_209 : decode cX8_missed 209 = .ok (.if_icmp .ne 7, 3) := by decide +kernel
theorem dX8_missed_212 : decode cX8_missed 212 = .ok (.iconst 1, 1) := by decide +kernel
theorem dX8_missed_213 : decode cX8_missed 213 = .ok (.goto 4, 3) := by decide +kernel
theorem dX8_missed_216 : decode cX8_missed 216 = .ok (.iconst 0, 1) := by decide +kernel
theorem dX8_missed_217 : decode cX8_missed 217 = .ok (.iadd, 1) := by decide +kernel
theorem dX8_missed_218 : decode cX8_missed 218 = .ok (.istore 5, 2) := by decide +kernel
theorem dX8_missed_220 : decode cX8_missed 220 = .ok (.iinc 7 1, 3) := by decide +kernel
theorem dX8_missed_223 : decode cX8_missed 223 = .ok (.goto (-55), 3) := by decide +kernel
theorem dX8_missed_226 : decode cX8_missed 226 = .ok (.iload 6, 2) := by decide +kernel
theorem dX8_missed_228 : decode cX8_missed 228 = .ok (.bipush 10, 2) := by decide +kernel
theorem dX8_missed_230 : decode cX8_missed 230 = .ok (.imul, 1) := by decide +kernel
theorem dX8_missed_231 : decode cX8_missed 231 = .ok (.istore 6, 2) := by decide +kernel
theorem dX8_missed_233 : decode cX8_missed 233 = .ok (.goto (-76), 3) := by decide +kernel
theorem dX8_missed_236 : decode cX8_missed 236 = .ok (.iload 5, 2) := by decide +kernel
theorem dX8_missed_238 : decode cX8_missed 238 = .ok (.ireturn, 1) := by decide +kernel
theorem dX8_note1_0 : decode cX8_note1 0 = .ok (.aload_n 0, 1) := by decide +kernel
theorem dX8_note1_1 : decode cX8_note1 1 = .ok (.getfield 81, 3) := by decide +kernel
theorem dX8_note1_4 : decode cX8_note1 4 = .ok (.bipush 6, 2) := by decide +kernel
theorem dX8_note1_6 : decode cX8_note1 6 = .ok (.if_icmp .ne 43, 3) := by decide +kernel
theorem dX8_note1_9 : decode cX8_note1 9 = .ok (.iconst 0, 1) := by decide +kernel
theorem dX8_note1_10 : decode cX8_note1 10 = .ok (.istore_n 1, 1) := by decide +kernel
theorem dX8_note1_11 : decode cX8_note1 11 = .ok (.iload_n 1, 1) := by decide +kernel
theorem dX8_note1_12 : decode cX8_note1 12 = .ok (.sipush 560, 3) := by decide +kernel
theorem dX8_note1_15 : decode cX8_note1 15 = .ok (.if_icmp .ge 24, 3) := by decide +kernel
theorem dX8_note1_18 : decode cX8_note1 18 = .ok (.aload_n 0, 1) := by decide +kernel
theorem dX8_note1_19 : decode cX8_note1 19 = .ok (.getfield 22, 3) := by decide +kernel
theorem dX8_note1_22 : decode cX8_note1 22 = .ok (.iload_n 1, 1) := by decide +kernel
theorem dX8_note1_23 : decode cX8_note1 23 = .ok (.aload_n 0, 1) := by decide +kernel
theorem dX8_note1_24 : decode cX8_note1 24 = .ok (.getfield 22, 3) := by decide +kernel
theorem dX8_note1_27 : decode cX8_note1 27 = .ok (.bipush 112, 2) := by decide +kernel
theorem dX8_note1_29 : decode cX8_note1 29 = .ok (.iload_n 1, 1) := by decide +kernel
theorem dX8_note1_30 : decode cX8_note1 30 = .ok (.iadd, 1) := by decide +kernel
theorem dX8_note1_31 : decode cX8_note1 31 = .ok (.iaload, 1) := by decide +kernel
theorem dX8_note1_32 : decode cX8_note1 32 = .ok (.iastore, 1) := by decide +kernel
theorem dX8_note1_33 : decode cX8_note1 33 = .ok (.iinc 1 1, 3) := by decide +kernel
theorem dX8_note1_36 : decode cX8_note1 36 = .ok (.goto (-25), 3) := by decide +kernel
theorem dX8_note1_39 : decode cX8_note1 39 = .ok (.aload_n 0, 1) := by decide +kernel
theorem dX8_note1_40 : decode cX8_note1 40 = .ok (.dup, 1) := by decide +kernel
theorem dX8_note1_41 : decode cX8_note1 41 = .ok (.getfield 81, 3) := by decide +kernel
theorem dX8_note1_44 : decode cX8_note1 44 = .ok (.iconst 1, 1) := by decide +kernel
theorem dX8_note1_45 : decode cX8_note1 45 = .ok (.isub, 1) := by decide +kernel
theorem dX8_note1_46 : decode cX8_note1 46 = .ok (.putfield 81, 3) := by decide +kernel
theorem dX8_note1_49 : decode cX8_note1 49 = .ok (.iconst 0, 1) := by decide +kernel
theorem dX8_note1_50 : decode cX8_note1 50 = .ok (.istore_n 1, 1) := by decide +kernel
theorem dX8_note1_51 : decode cX8_note1 51 = .ok (.iload_n 1, 1) := by decide +kernel
theorem dX8_note1_52 : decode cX8_note1 52 = .ok (.bipush 112, 2) := by decide +kernel
theorem dX8_note1_54 : decode cX8_note1 54 = .ok (.if_icmp .ge 29, 3) := by decide +kernel
theorem dX8_note1_57 : decode cX8_note1 57 = .ok (.aload_n 0, 1) := by decide +kernel
theorem dX8_note1_58 : decode cX8_note1 58 = .ok (.getfield 22, 3) := by decide +kernel
theorem dX8_note1_61 : decode cX8_note1 61 = .ok (.bipush 112, 2) := by decide +kernel
theorem dX8_note1_63 : decode cX8_note1 63 = .ok (.aload_n 0, 1) := by decide +kernel
theorem dX8_note1_64 : decode cX8_note1 64 = .ok (.getfield 81, 3) := by decide +kernel
theorem dX8_note1_67 : decode cX8_note1 67 = .ok (.imul, 1) := by decide +kernel
theorem dX8_note1_68 : decode cX8_note1 68 = .ok (.iload_n 1, 1) := by decide +kernel
theorem dX8_note1_69 : decode cX8_note1 69 = .ok (.iadd, 1) := by decide +kernel
theorem dX8_note1_70 : decode cX8_note1 70 = .ok (.aload_n 0, 1) := by decide +kernel
theorem dX8_note1_71 : decode cX8_note1 71 = .ok (.getfield 19, 3) := by decide +kernel
theorem dX8_note1_74 : decode cX8_note1 74 = .ok (.iload_n 1, 1) := by decide +kernel
theorem dX8_note1_75 : decode cX8_note1 75 = .ok (.iaload, 1) := by decide +kernel
theorem dX8_note1_76 : decode cX8_note1 76 = .ok (.iastore, 1) := by decide +kernel
theorem dX8_note1_77 : decode cX8_note1 77 = .ok (.iinc 1 1, 3) := by decide +kernel
theorem dX8_note1_80 : decode cX8_note1 80 = .ok (.goto (-29), 3) := by decide +kernel
theorem dX8_note1_83 : decode cX8_note1 83 = .ok (.aload_n 0, 1) := by decide +kernel
theorem dX8_note1_84 : decode cX8_note1 84 = .ok (.dup, 1) := by decide +kernel
theorem dX8_note1_85 : decode cX8_note1 85 = .ok (.getfield 81, 3) := by decide +kernel
theorem dX8_note1_88 : decode cX8_note1 88 = .ok (.iconst 1, 1) := by decide +kernel
theorem dX8_note1_89 : decode cX8_note1 89 = .ok (.iadd, 1) := by decide +kernel
theorem dX8_note1_90 : decode cX8_note1 90 = .ok (.putfield 81, 3) := by decide +kernel
theorem dX8_note1_93 : decode cX8_note1 93 = .ok (.return_, 1) := by decide +kernel
theorem dX8_undo_0 : decode cX8_undo 0 = .ok (.aload_n 0, 1) := by decide +kernel
theorem dX8_undo_1 : decode cX8_undo 1 = .ok (.getfield 81, 3) := by decide +kernel
theorem dX8_undo_4 : decode cX8_undo 4 = .ok (.ifCond .ne 6, 3) := by decide +kernel
theorem dX8_undo_7 : decode cX8_undo 7 = .ok (.bipush (-2), 2) := by decide +kernel
theorem dX8_undo_9 : decode cX8_undo 9 = .ok (.ireturn, 1) := by decide +kernel
theorem dX8_undo_10 : decode cX8_undo 10 = .ok (.aload_n 0, 1) := by decide +kernel
theorem dX8_undo_11 : decode cX8_undo 11 = .ok (.dup, 1) := by decide +kernel
theorem dX8_undo_12 : decode cX8_undo 12 = .ok (.getfield 81, 3) := by decide +kernel
theorem dX8_undo_15 : decode cX8_undo 15 = .ok (.iconst 1, 1) := by decide +kernel
theorem dX8_undo_16 : decode cX8_undo 16 = .ok (.isub, 1) := by decide +kernel
theorem dX8_undo_17 : decode cX8_undo 17 = .ok (.putfield 81, 3) := by decide +kernel
theorem dX8_undo_20 : decode cX8_undo 20 = .ok (.iconst 0, 1) := by decide +kernel
theorem dX8_undo_21 : decode cX8_undo 21 = .ok (.istore_n 1, 1) := by decide +kernel
theorem dX8_undo_22 : decode cX8_undo 22 = .ok (.iload_n 1, 1) := by decide +kernel
theorem dX8_undo_23 : decode cX8_undo 23 = .ok (.bipush 112, 2) := by decide +kernel
theorem dX8_undo_25 : decode cX8_undo 25 = .ok (.if_icmp .ge 29, 3) := by decide +kernel
theorem dX8_undo_28 : decode cX8_undo 28 = .ok (.aload_n 0, 1) := by decide +kernel
theorem dX8_undo_29 : decode cX8_undo 29 = .ok (.getfield 19, 3) := by decide +kernel
theorem dX8_undo_32 : decode cX8_undo 32 = .ok (.iload_n 1, 1) := by decide +kernel
theorem dX8_undo_33 : decode cX8_undo 33 = .ok (.aload_n 0, 1) := by decide +kernel
theorem dX8_undo_34 : decode cX8_undo 34 = .ok (.getfield 22, 3) := by decide +kernel
theorem dX8_undo_37 : decode cX8_undo 37 = .ok (.bipush 112, 2) := by decide +kernel
theorem dX8_undo_39 : decode cX8_undo 39 = .ok (.aload_n 0, 1) := by decide +kernel
theorem dX8_undo_40 : decode cX8_undo 40 = .ok (.getfield 81, 3) := by decide +kernel
theorem dX8_undo_43 : decode cX8_undo 43 = .ok (.imul, 1) := by decide +kernel
theorem dX8_undo_44 : decode cX8_undo 44 = .ok (.iload_n 1, 1) := by decide +kernel
theorem dX8_undo_45 : decode cX8_undo 45 = .ok (.iadd, 1) := by decide +kernel
theorem dX8_undo_46 : decode cX8_undo 46 = .ok (.iaload, 1) := by decide +kernel
theorem dX8_undo_47 : decode cX8_undo 47 = .ok (.iastore, 1) := by decide +kernel
theorem dX8_undo_48 : decode cX8_undo 48 = .ok (.iinc 1 1, 3) := by decide +kernel
theorem dX8_undo_51 : decode cX8_undo 51 = .ok (.goto (-29), 3) := by decide +kernel
theorem dX8_undo_54 : decode cX8_undo 54 = .ok (.aload_n 0, 1) := by decide +kernel
theorem dX8_undo_55 : decode cX8_undo 55 = .ok (.getfield 81, 3) := by decide +kernel
theorem dX8_undo_58 : decode cX8_undo 58 = .ok (.ireturn, 1) := by decide +kernel
theorem dX8_run_0 : decode cX8_run 0 = .ok (.aload_n 0, 1) := by decide +kernel
theorem dX8_run_1 : decode cX8_run 1 = .ok (.iload_n 1, 1) := by decide +kernel
theorem dX8_run_2 : decode cX8_run 2 = .ok (.invokevirtual 84, 3) := by decide +kernel
theorem dX8_run_5 : decode cX8_run 5 = .ok (.ifCond .eq 23, 3) := by decide +kernel
theorem dX8_run_8 : decode cX8_run 8 = .ok (.aload_n 0, 1) := by decide +kernel
theorem dX8_run_9 : decode cX8_run 9 = .ok (.iload_n 2, 1) := by decide +kernel
theorem dX8_run_10 : decode cX8_run 10 = .ok (.invokevirtual 113, 3) := by decide +kernel
theorem dX8_run_13 : decode cX8_run 13 = .ok (.ifCond .eq 15, 3) := by decide +kernel
theorem dX8_run_16 : decode cX8_run 16 = .ok (.iload_n 3, 1) := by decide +kernel
theorem dX8_run_17 : decode cX8_run 17 = .ok (.i2l, 1) := by decide +kernel
theorem dX8_run_18 : decode cX8_run 18 = .ok (.lconst 1, 1) := by decide +kernel
theorem dX8_run_19 : decode cX8_run 19 = .ok (.ldc2_w 116, 3) := by decide +kernel
theorem dX8_run_22 : decode cX8_run 22 = .ok (.invokestatic 33, 3) := by decide +kernel
theorem dX8_run_25 : decode cX8_run 25 = .ok (.ifCond .ne 5, 3) := by decide +kernel
theorem dX8_run_28 : decode cX8_run 28 = .ok (.iconst (-1), 1) := by decide +kernel
theorem dX8_run_29 : decode cX8_run 29 = .ok (.ireturn, 1) := by decide +kernel
theorem dX8_run_30 : decode cX8_run 30 = .ok (.aload_n 0, 1) := by decide +kernel
theorem dX8_run_31 : decode cX8_run 31 = .ok (.getfield 19, 3) := by decide +kernel
theorem dX8_run_34 : decode cX8_run 34 = .ok (.iconst 4, 1) := by decide +kernel
theorem dX8_run_35 : decode cX8_run 35 = .ok (.iload_n 1, 1) := by decide +kernel
theorem dX8_run_36 : decode cX8_run 36 = .ok (.imul, 1) := by decide +kernel
theorem dX8_run_37 : decode cX8_run 37 = .ok (.iload_n 2, 1) := by decide +kernel
theorem dX8_run_38 : decode cX8_run 38 = .ok (.iadd, 1) := by decide +kernel
theorem dX8_run_39 : decode cX8_run 39 = .ok (.iaload, 1) := by decide +kernel
theorem dX8_run_40 : decode cX8_run 40 = .ok (.iload_n 3, 1) := by decide +kernel
theorem dX8_run_41 : decode cX8_run 41 = .ok (.iadd, 1) := by decide +kernel
theorem dX8_run_42 : decode cX8_run 42 = .ok (.aload_n 0, 1) := by decide +kernel
theorem dX8_run_43 : decode cX8_run 43 = .ok (.iload_n 1, 1) := by decide +kernel
theorem dX8_run_44 : decode cX8_run 44 = .ok (.iload_n 2, 1) := by decide +kernel
theorem dX8_run_45 : decode cX8_run 45 = .ok (.invokevirtual 87, 3) := by decide +kernel
theorem dX8_run_48 : decode cX8_run 48 = .ok (.if_icmp .le 6, 3) := by decide +kernel
theorem dX8_run_51 : decode cX8_run 51 = .ok (.bipush (-2), 2) := by decide +kernel
theorem dX8_run_53 : decode cX8_run 53 = .ok (.ireturn, 1) := by decide +kernel
theorem dX8_run_54 : decode cX8_run 54 = .ok (.aload_n 0, 1) := by decide +kernel
theorem dX8_run_55 : decode cX8_run 55 = .ok (.invokevirtual 118, 3) := by decide +kernel
theorem dX8_run_58 : decode cX8_run 58 = .ok (.aload_n 0, 1) := by decide +kernel
theorem dX8_run_59 : decode cX8_run 59 = .ok (.getfield 19, 3) := by decide +kernel
theorem dX8_run_62 : decode cX8_run 62 = .ok (.iconst 4, 1) := by decide +kernel
theorem dX8_run_63 : decode cX8_run 63 = .ok (.iload_n 1, 1) := by decide +kernel
theorem dX8_run_64 : decode cX8_run 64 = .ok (.imul, 1) := by decide +kernel
theorem dX8_run_65 : decode cX8_run 65 = .ok (.iload_n 2, 1) := by decide +kernel
theorem dX8_run_66 : decode cX8_run 66 = .ok (.iadd, 1) := by decide +kernel
theorem dX8_run_67 : decode cX8_run 67 = .ok (.dup2, 1) := by decide +kernel
theorem dX8_run_68 : decode cX8_run 68 = .ok (.iaload, 1) := by decide +kernel
theorem dX8_run_69 : decode cX8_run 69 = .ok (.iload_n 3, 1) := by decide +kernel
theorem dX8_run_70 : decode cX8_run 70 = .ok (.iadd, 1) := by decide +kernel
theorem dX8_run_71 : decode cX8_run 71 = .ok (.iastore, 1) := by decide +kernel
theorem dX8_run_72 : decode cX8_run 72 = .ok (.iload_n 3, 1) := by decide +kernel
theorem dX8_run_73 : decode cX8_run 73 = .ok (.aload_n 0, 1) := by decide +kernel
theorem dX8_run_74 : decode cX8_run 74 = .ok (.getfield 13, 3) := by decide +kernel
theorem dX8_run_77 : decode cX8_run 77 = .ok (.iload_n 2, 1) := by decide +kernel
theorem dX8_run_78 : decode cX8_run 78 = .ok (.iaload, 1) := by decide +kernel
theorem dX8_run_79 : decode cX8_run 79 = .ok (.imul, 1) := by decide +kernel
theorem dX8_run_80 : decode cX8_run 80 = .ok (.ireturn, 1) := by decide +kernel
theorem dX8_stands_0 : decode cX8_stands 0 = .ok (.aload_n 0, 1) := by decide +kernel
theorem dX8_stands_1 : decode cX8_stands 1 = .ok (.getfield 19, 3) := by decide +kernel
theorem dX8_stands_4 : decode cX8_stands 4 = .ok (.bipush 111, 2) := by decide +kernel
theorem dX8_stands_6 : decode cX8_stands 6 = .ok (.iaload, 1) := by decide +kernel
theorem dX8_stands_7 : decode cX8_stands 7 = .ok (.istore_n 3, 1) := by decide +kernel
theorem dX8_stands_8 : decode cX8_stands 8 = .ok (.aload_n 0, 1) := by decide +kernel
theorem dX8_stands_9 : decode cX8_stands 9 = .ok (.getfield 19, 3) := by decide +kernel
theorem dX8_stands_12 : decode cX8_stands 12 = .ok (.bipush 12, 2) := by decide +kernel
theorem dX8_stands_14 : decode cX8_stands 14 = .ok (.iload_n 3, 1) := by decide +kernel
theorem dX8_stands_15 : decode cX8_stands 15 = .ok (.iadd, 1) := by decide +kernel
theorem dX8_stands_16 : decode cX8_stands 16 = .ok (.sipush 1000, 3) := by decide +kernel
theorem dX8_stands_19 : decode cX8_stands 19 = .ok (.iload_n 1, 1) := by decide +kernel
theorem dX8_stands_20 : decode cX8_stands 20 = .ok (.imul, 1) := by decide +kernel
theorem dX8_stands_21 : decode cX8_stands 21 = .ok (.iload_n 2, 1) := by decide +kernel
theorem dX8_stands_22 : decode cX8_stands 22 = .ok (.iadd, 1) := by decide +kernel
theorem dX8_stands_23 : decode cX8_stands 23 = .ok (.iastore, 1) := by decide +kernel
theorem dX8_stands_24 : decode cX8_stands 24 = .ok (.aload_n 0, 1) := by decide +kernel
theorem dX8_stands_25 : decode cX8_stands 25 = .ok (.getfield 19, 3) := by decide +kernel
theorem dX8_stands_28 : decode cX8_stands 28 = .ok (.bipush 111, 2) := by decide +kernel
theorem dX8_stands_30 : decode cX8_stands 30 = .ok (.dup2, 1) := by decide +kernel
theorem dX8_stands_31 : decode cX8_stands 31 = .ok (.iaload, 1) := by decide +kernel
theorem dX8_stands_32 : decode cX8_stands 32 = .ok (.iconst 1, 1) := by decide +kernel
theorem dX8_stands_33 : decode cX8_stands 33 = .ok (.iadd, 1) := by decide +kernel
theorem dX8_stands_34 : decode cX8_stands 34 = .ok (.iastore, 1) := by decide +kernel
theorem dX8_stands_35 : decode cX8_stands 35 = .ok (.iload_n 3, 1) := by decide +kernel
theorem dX8_stands_36 : decode cX8_stands 36 = .ok (.ireturn, 1) := by decide +kernel
theorem dX8_spoil_0 : decode cX8_spoil 0 = .ok (.aload_n 0, 1) := by decide +kernel
theorem dX8_spoil_1 : decode cX8_spoil 1 = .ok (.iload_n 1, 1) := by decide +kernel
theorem dX8_spoil_2 : decode cX8_spoil 2 = .ok (.iload_n 2, 1) := by decide +kernel
theorem dX8_spoil_3 : decode cX8_spoil 3 = .ok (.invokevirtual 121, 3) := by decide +kernel
theorem dX8_spoil_6 : decode cX8_spoil 6 = .ok (.ifCond .ne 5, 3) := by decide +kernel
theorem dX8_spoil_9 : decode cX8_spoil 9 = .ok (.iconst (-1), 1) := by decide +kernel
theorem dX8_spoil_10 : decode cX8_spoil 10 = .ok (.ireturn, 1) := by decide +kernel
theorem dX8_spoil_11 : decode cX8_spoil 11 = .ok (.aload_n 0, 1) := by decide +kernel
theorem dX8_spoil_12 : decode cX8_spoil 12 = .ok (.iload_n 1, 1) := by decide +kernel
theorem dX8_spoil_13 : decode cX8_spoil 13 = .ok (.iload_n 2, 1) := by decide +kernel
theorem dX8_spoil_14 : decode cX8_spoil 14 = .ok (.invokevirtual 125, 3) := by decide +kernel
theorem dX8_spoil_17 : decode cX8_spoil 17 = .ok (.ifCond .eq 14, 3) := by decide +kernel
theorem dX8_spoil_20 : decode cX8_spoil 20 = .ok (.aload_n 0, 1) := by decide +kernel
theorem dX8_spoil_21 : decode cX8_spoil 21 = .ok (.iload_n 1, 1) := by decide +kernel
theorem dX8_spoil_22 : decode cX8_spoil 22 = .ok (.iload_n 2, 1) := by decide +kernel
theorem dX8_spoil_23 : decode cX8_spoil 23 = .ok (.invokevirtual 128, 3) := by decide +kernel
theorem dX8_spoil_26 : decode cX8_spoil 26 = .ok (.bipush (-4), 2) := by decide +kernel
theorem dX8_spoil_28 : decode cX8_spoil 28 = .ok (.if_icmp .eq 6, 3) := by decide +kernel
theorem dX8_spoil_31 : decode cX8_spoil 31 = .ok (.bipush (-2), 2) := by decide +kernel
theorem dX8_spoil_33 : decode cX8_spoil 33 = .ok (.ireturn, 1) := by decide +kernel
theorem dX8_spoil_34 : decode cX8_spoil 34 = .ok (.aload_n 0, 1) := by decide +kernel
theorem dX8_spoil_35 : decode cX8_spoil 35 = .ok (.getfield 19, 3) := by decide +kernel
theorem dX8_spoil_38 : decode cX8_spoil 38 = .ok (.bipush 111, 2) := by decide +kernel
theorem dX8_spoil_40 : decode cX8_spoil 40 = .ok (.iaload, 1) := by decide +kernel
theorem dX8_spoil_41 : decode cX8_spoil 41 = .ok (.aload_n 0, 1) := by decide +kernel
theorem dX8_spoil_42 : decode cX8_spoil 42 = .ok (.getfield 13, 3) := by decide +kernel
theorem dX8_spoil_45 : decode cX8_spoil 45 = .ok (.bipush 24, 2) := by decide +kernel
theorem dX8_spoil_47 : decode cX8_spoil 47 = .ok (.iaload, 1) := by decide +kernel
theorem dX8_spoil_48 : decode cX8_spoil 48 = .ok (.if_icmp .ne 6, 3) := by decide +kernel
theorem dX8_spoil_51 : decode cX8_spoil 51 = .ok (.bipush (-3), 2) := by decide +kernel
theorem dX8_spoil_53 : decode cX8_spoil 53 = .ok (.ireturn, 1) := by decide +kernel
theorem dX8_spoil_54 : decode cX8_spoil 54 = .ok (.aload_n 0, 1) := by decide +kernel
theorem dX8_spoil_55 : decode cX8_spoil 55 = .ok (.invokevirtual 118, 3) := by decide +kernel
theorem dX8_spoil_58 : decode cX8_spoil 58 = .ok (.aload_n 0, 1) := by decide +kernel
theorem dX8_spoil_59 : decode cX8_spoil 59 = .ok (.iload_n 1, 1) := by decide +kernel
theorem dX8_spoil_60 : decode cX8_spoil 60 = .ok (.iload_n 2, 1) := by decide +kernel
theorem dX8_spoil_61 : decode cX8_spoil 61 = .ok (.invokevirtual 131, 3) := by decide +kernel
theorem dX8_spoil_64 : decode cX8_spoil 64 = .ok (.ireturn, 1) := by decide +kernel
theorem dX8_numberAt_0 : decode cX8_numberAt 0 = .ok (.aload_n 0, 1) := by decide +kernel
theorem dX8_numberAt_1 : decode cX8_numberAt 1 = .ok (.iload_n 1, 1) := by decide +kernel
theorem dX8_numberAt_2 : decode cX8_numberAt 2 = .ok (.iload_n 2, 1) := by decide +kernel
theorem dX8_numberAt_3 : decode cX8_numberAt 3 = .ok (.invokevirtual 91, 3) := by decide +kernel
theorem dX8_numberAt_6 : decode cX8_numberAt 6 = .ok (.iload 4, 2) := by decide +kernel
theorem dX8_numberAt_8 : decode cX8_numberAt 8 = .ok (.aload_n 0, 1) := by decide +kernel
theorem dX8_numberAt_9 : decode cX8_numberAt 9 = .ok (.iload_n 1, 1) := by decide +kernel
theorem dX8_numberAt_10 : decode cX8_numberAt 10 = .ok (.iload_n 2, 1) := by decide +kernel
theorem dX8_numberAt_11 : decode cX8_numberAt 11 = .ok (.invokevirtual 87, 3) := by decide +kernel
theorem dX8_numberAt_14 : decode cX8_numberAt 14 = .ok (.imul, 1) := by decide +kernel
theorem dX8_numberAt_15 : decode cX8_numberAt 15 = .ok (.iadd, 1) := by decide +kernel
theorem dX8_numberAt_16 : decode cX8_numberAt 16 = .ok (.iload_n 3, 1) := by decide +kernel
theorem dX8_numberAt_17 : decode cX8_numberAt 17 = .ok (.iadd, 1) := by decide +kernel
theorem dX8_numberAt_18 : decode cX8_numberAt 18 = .ok (.ireturn, 1) := by decide +kernel
theorem dX8_spoilSheet_0 : decode cX8_spoilSheet 0 = .ok (.aload_n 0, 1) := by decide +kernel
theorem dX8_spoilSheet_1 : decode cX8_spoilSheet 1 = .ok (.iload_n 1, 1) := by decide +kernel
theorem dX8_spoilSheet_2 : decode cX8_spoilSheet 2 = .ok (.invokevirtual 84, 3) := by decide +kernel
theorem dX8_spoilSheet_5 : decode cX8_spoilSheet 5 = .ok (.ifCond .eq 29, 3) := by decide +kernel
theorem dX8_spoilSheet_8 : decode cX8_spoilSheet 8 = .ok (.aload_n 0, 1) := by decide +kernel
theorem dX8_spoilSheet_9 : decode cX8_spoilSheet 9 = .ok (.iload_n 2, 1) := by decide +kernel
theorem dX8_spoilSheet_10 : decode cX8_spoilSheet 10 = .ok (.invokevirtual 113, 3) := by decide +kernel
theorem dX8_spoilSheet_13 : decode cX8_spoilSheet 13 = .ok (.ifCond .eq 21, 3) := by decide +kernel
theorem dX8_spoilSheet_16 : decode cX8_spoilSheet 16 = .ok (.iload_n 3, 1) := by decide +kernel
theorem dX8_spoilSheet_17 : decode cX8_spoilSheet 17 = .ok (.i2l, 1) := by decide +kernel
theorem dX8_spoilSheet_18 : decode cX8_spoilSheet 18 = .ok (.lconst 0, 1) := by decide +kernel
theorem dX8_spoilSheet_19 : decode cX8_spoilSheet 19 = .ok (.aload_n 0, 1) := by decide +kernel
theorem dX8_spoilSheet_20 : decode cX8_spoilSheet 20 = .ok (.iload_n 1, 1) := by decide +kernel
theorem dX8_spoilSheet_21 : decode cX8_spoilSheet 21 = .ok (.iload_n 2, 1) := by decide +kernel
theorem dX8_spoilSheet_22 : decode cX8_spoilSheet 22 = .ok (.invokevirtual 87, 3) := by decide +kernel
theorem dX8_spoilSheet_25 : decode cX8_spoilSheet 25 = .ok (.iconst 1, 1) := by decide +kernel
theorem dX8_spoilSheet_26 : decode cX8_spoilSheet 26 = .ok (.isub, 1) := by decide +kernel
theorem dX8_spoilSheet_27 : decode cX8_spoilSheet 27 = .ok (.i2l, 1) := by decide +kernel
theorem dX8_spoilSheet_28 : decode cX8_spoilSheet 28 = .ok (.invokestatic 33, 3) := by decide +kernel
theorem dX8_spoilSheet_31 : decode cX8_spoilSheet 31 = .ok (.ifCond .ne 5, 3) := by decide +kernel
theorem dX8_spoilSheet_34 : decode cX8_spoilSheet 34 = .ok (.iconst (-1), 1) := by decide +kernel
theorem dX8_spoilSheet_35 : decode cX8_spoilSheet 35 = .ok (.ireturn, 1) := by decide +kernel
theorem dX8_spoilSheet_36 : decode cX8_spoilSheet 36 = .ok (.iconst 0, 1) := by decide +kernel
theorem dX8_spoilSheet_37 : decode cX8_spoilSheet 37 = .ok (.istore 4, 2) := by decide +kernel
theorem dX8_spoilSheet_39 : decode cX8_spoilSheet 39 = .ok (.iconst 0, 1) := by decide +kernel
theorem dX8_spoilSheet_40 : decode cX8_spoilSheet 40 = .ok (.istore 5, 2) := by decide +kernel
theorem dX8_spoilSheet_42 : decode cX8_spoilSheet 42 = .ok (.iload 5, 2) := by decide +kernel
theorem dX8_spoilSheet_44 : decode cX8_spoilSheet 44 = .ok (.aload_n 0, 1) := by decide +kernel
theorem dX8_spoilSheet_45 : decode cX8_spoilSheet 45 = .ok (.getfield 13, 3) := by decide +kernel
theorem dX8_spoilSheet_48 : decode cX8_spoilSheet 48 = .ok (.iload_n 2, 1) := by decide +kernel
theorem dX8_spoilSheet_49 : decode cX8_spoilSheet 49 = .ok (.iaload, 1) := by decide +kernel
theorem dX8_spoilSheet_50 : decode cX8_spoilSheet 50 = .ok (.if_icmp .ge 38, 3) := by decide +kernel
theorem dX8_spoilSheet_53 : decode cX8_spoilSheet 53 = .ok (.iload 4, 2) := by decide +kernel
theorem dX8_spoilSheet_55 : decode cX8_spoilSheet 55 = .ok (.aload_n 0, 1) := by decide +kernel
theorem dX8_spoilSheet_56 : decode cX8_spoilSheet 56 = .ok (.iload_n 1, 1) := by decide +kernel
theorem dX8_spoilSheet_57 : decode cX8_spoilSheet 57 = .ok (.aload_n 0, 1) := by decide +kernel
theorem dX8_spoilSheet_58 : decode cX8_spoilSheet 58 = .ok (.iload_n 1, 1) := by decide +kernel
theorem dX8_spoilSheet_59 : decode cX8_spoilSheet 59 = .ok (.iload_n 2, 1) := by decide +kernel
theorem dX8_spoilSheet_60 : decode cX8_spoilSheet 60 = .ok (.iload_n 3, 1) := by decide +kernel
theorem dX8_spoilSheet_61 : decode cX8_spoilSheet 61 = .ok (.iload 5, 2) := by decide +kernel
theorem dX8_spoilSheet_63 : decode cX8_spoilSheet 63 = .ok (.invokevirtual 134, 3) := by decide +kernel
theorem dX8_spoilSheet_66 : decode cX8_spoilSheet 66 = .ok (.invokevirtual 128, 3) := by decide +kernel
theorem dX8_spoilSheet_69 : decode cX8_spoilSheet 69 = .ok (.bipush (-4), 2) := by decide +kernel
theorem dX8_spoilSheet_71 : decode cX8_spoilSheet 71 = .ok (.if_icmp .ne 7, 3) := by decide +kernel
theorem dX8_spoilSheet_74 : decode cX8_spoilSheet 74 = .ok (.iconst 1, 1) := by decide +kernel
theorem dX8_spoilSheet_75 : decode cX8_spoilSheet 75 = .ok (.goto 4, 3) := by decide +kernel
theorem dX8_spoilSheet_78 : decode cX8_spoilSheet 78 = .ok (.iconst 0, 1) := by decide +kernel
theorem dX8_spoilSheet_79 : decode cX8_spoilSheet 79 = .ok (.iadd, 1) := by decide +kernel
theorem dX8_spoilSheet_80 : decode cX8_spoilSheet 80 = .ok (.istore 4, 2) := by decide +kernel
theorem dX8_spoilSheet_82 : decode cX8_spoilSheet 82 = .ok (.iinc 5 1, 3) := by decide +kernel
theorem dX8_spoilSheet_85 : decode cX8_spoilSheet 85 = .ok (.goto (-43), 3) := by decide +kernel
theorem dX8_spoilSheet_88 : decode cX8_spoilSheet 88 = .ok (.iload_n 3, 1) := by decide +kernel
theorem dX8_spoilSheet_89 : decode cX8_spoilSheet 89 = .ok (.aload_n 0, 1) := by decide +kernel
theorem dX8_spoilSheet_90 : decode cX8_spoilSheet 90 = .ok (.getfield 19, 3) := by decide +kernel
theorem dX8_spoilSheet_93 : decode cX8_spoilSheet 93 = .ok (.iconst 4, 1) := by decide +kernel
theorem dX8_spoilSheet_94 : decode cX8_spoilSheet 94 = .ok (.iload_n 1, 1) := by decide +kernel
theorem dX8_spoilSheet_95 : decode cX8_spoilSheet 95 = .ok (.imul, 1) := by decide +kernel
theorem dX8_spoilSheet_96 : decode cX8_spoilSheet 96 = .ok (.iload_n 2, 1) := by decide +kernel
theorem dX8_spoilSheet_97 : decode cX8_spoilSheet 97 = .ok (.iadd, 1) := by decide +kernel
theorem dX8_spoilSheet_98 : decode cX8_spoilSheet 98 = .ok (.iaload, 1) := by decide +kernel
theorem dX8_spoilSheet_99 : decode cX8_spoilSheet 99 = .ok (.if_icmp .ge 8, 3) := by decide +kernel
theorem dX8_spoilSheet_102 : decode cX8_spoilSheet 102 = .ok (.iload 4, 2) := by decide +kernel
theorem dX8_spoilSheet_104 : decode cX8_spoilSheet 104 = .ok (.ifCond .ne 6, 3) := by decide +kernel
theorem dX8_spoilSheet_107 : decode cX8_spoilSheet 107 = .ok (.bipush (-2), 2) := by decide +kernel
theorem dX8_spoilSheet_109 : decode cX8_spoilSheet 109 = .ok (.ireturn, 1) := by decide +kernel
theorem dX8_spoilSheet_110 : decode cX8_spoilSheet 110 = .ok (.aload_n 0, 1) := by decide +kernel
theorem dX8_spoilSheet_111 : decode cX8_spoilSheet 111 = .ok (.getfield 19, 3) := by decide +kernel
theorem dX8_spoilSheet_114 : decode cX8_spoilSheet 114 = .ok (.bipush 111, 2) := by decide +kernel
theorem dX8_spoilSheet_116 : decode cX8_spoilSheet 116 = .ok (.iaload, 1) := by decide +kernel
theorem dX8_spoilSheet_117 : decode cX8_spoilSheet 117 = .ok (.iload 4, 2) := by decide +kernel
theorem dX8_spoilSheet_119 : decode cX8_spoilSheet 119 = .ok (.iadd, 1) := by decide +kernel
theorem dX8_spoilSheet_120 : decode cX8_spoilSheet 120 = .ok (.aload_n 0, 1) := by decide +kernel
theorem dX8_spoilSheet_121 : decode cX8_spoilSheet 121 = .ok (.getfield 13, 3) := by decide +kernel
theorem dX8_spoilSheet_124 : decode cX8_spoilSheet 124 = .ok (.bipush 24, 2) := by decide +kernel
theorem dX8_spoilSheet_126 : decode cX8_spoilSheet 126 = .ok (.iaload, 1) := by decide +kernel
theorem dX8_spoilSheet_127 : decode cX8_spoilSheet 127 = .ok (.if_icmp .le 6, 3) := by decide +kernel
theorem dX8_spoilSheet_130 : decode cX8_spoilSheet 130 = .ok (.bipush (-3), 2) := by decide +kernel
theorem dX8_spoilSheet_132 : decode cX8_spoilSheet 132 = .ok (.ireturn, 1) := by decide +kernel
theorem dX8_spoilSheet_133 : decode cX8_spoilSheet 133 = .ok (.aload_n 0, 1) := by decide +kernel
theorem dX8_spoilSheet_134 : decode cX8_spoilSheet 134 = .ok (.invokevirtual 118, 3) := by decide +kernel
theorem dX8_spoilSheet_137 : decode cX8_spoilSheet 137 = .ok (.iconst 0, 1) := by decide +kernel
theorem dX8_spoilSheet_138 : decode cX8_spoilSheet 138 = .ok (.istore 5, 2) := by decide +kernel
theorem dX8_spoilSheet_140 : decode cX8_spoilSheet 140 = .ok (.iload 5, 2) := by decide +kernel
theorem dX8_spoilSheet_142 : decode cX8_spoilSheet 142 = .ok (.aload_n 0, 1) := by decide +kernel
theorem dX8_spoilSheet_143 : decode cX8_spoilSheet 143 = .ok (.getfield 13, 3) := by decide +kernel
theorem dX8_spoilSheet_146 : decode cX8_spoilSheet 146 = .ok (.iload_n 2, 1) := by decide +kernel
theorem dX8_spoilSheet_147 : decode cX8_spoilSheet 147 = .ok (.iaload, 1) := by decide +kernel
theorem dX8_spoilSheet_148 : decode cX8_spoilSheet 148 = .ok (.if_icmp .ge 56, 3) := by decide +kernel
theorem dX8_spoilSheet_151 : decode cX8_spoilSheet 151 = .ok (.aload_n 0, 1) := by decide +kernel
theorem dX8_spoilSheet_152 : decode cX8_spoilSheet 152 = .ok (.iload_n 1, 1) := by decide +kernel
theorem dX8_spoilSheet_153 : decode cX8_spoilSheet 153 = .ok (.iload_n 2, 1) := by decide +kernel
theorem dX8_spoilSheet_154 : decode cX8_spoilSheet 154 = .ok (.iload_n 3, 1) := by decide +kernel
theorem dX8_spoilSheet_155 : decode cX8_spoilSheet 155 = .ok (.iload 5, 2) := by decide +kernel
theorem dX8_spoilSheet_157 : decode cX8_spoilSheet 157 = .ok (.invokevirtual 134, 3) := by decide +kernel
theorem dX8_spoilSheet_160 : decode cX8_spoilSheet 160 = .ok (.istore 6, 2) := by decide +kernel
theorem dX8_spoilSheet_162 : decode cX8_spoilSheet 162 = .ok (.aload_n 0, 1) := by decide +kernel
theorem dX8_spoilSheet_163 : decode cX8_spoilSheet 163 = .ok (.iload_n 1, 1) := by decide +kernel
theorem dX8_spoilSheet_164 : decode cX8_spoilSheet 164 = .ok (.iload 6, 2) := by decide +kernel
theorem dX8_spoilSheet_166 : decode cX8_spoilSheet 166 = .ok (.invokevirtual 128, 3) := by decide +kernel
theorem dX8_spoilSheet_169 : decode cX8_spoilSheet 169 = .ok (.bipush (-4), 2) := by decide +kernel
theorem dX8_spoilSheet_171 : decode cX8_spoilSheet 171 = .ok (.if_icmp .ne 27, 3) := by decide +kernel
theorem dX8_spoilSheet_174 : decode cX8_spoilSheet 174 = .ok (.aload_n 0, 1) := by decide +kernel
theorem dX8_spoilSheet_175 : decode cX8_spoilSheet 175 = .ok (.iload_n 1, 1) := by decide +kernel
theorem dX8_spoilSheet_176 : decode cX8_spoilSheet 176 = .ok (.iload 6, 2) := by decide +kernel
theorem dX8_spoilSheet_178 : decode cX8_spoilSheet 178 = .ok (.invokevirtual 131, 3) := by decide +kernel
theorem dX8_spoilSheet_181 : decode cX8_spoilSheet 181 = .ok (.istore 7, 2) := by decide +kernel
theorem dX8_spoilSheet_183 : decode cX8_spoilSheet 183 = .ok (.iload 4, 2) := by decide +kernel
theorem dX8_spoilSheet_185 : decode cX8_spoilSheet 185 = .ok (.iload 7, 2) := by decide +kernel
theorem dX8_spoilSheet_187 : decode cX8_spoilSheet 187 = .ok (.ifCond .ge 7, 3) := by decide +kernel
theorem dX8_spoilSheet_190 : decode cX8_spoilSheet 190 = .ok (.iconst 1, 1) := by decide +kernel
theorem dX8_spoilSheet_191 : decode cX8_spoilSheet 191 = .ok (.goto 4, 3) := by decide +kernel
theorem dX8_spoilSheet_194 : decode cX8_spoilSheet 194 = .ok (.iconst 0, 1) := by decide +kernel
theorem dX8_spoilSheet_195 : decode cX8_spoilSheet 195 = .ok (.iadd, 1) := by decide +kernel
theorem dX8_spoilSheet_196 : decode cX8_spoilSheet 196 = .ok (.istore 4, 2) := by decide +kernel
theorem dX8_spoilSheet_198 : decode cX8_spoilSheet 198 = .ok (.iinc 5 1, 3) := by decide +kernel
theorem dX8_spoilSheet_201 : decode cX8_spoilSheet 201 = .ok (.goto (-61), 3) := by decide +kernel
theorem dX8_spoilSheet_204 : decode cX8_spoilSheet 204 = .ok (.iload 4, 2) := by decide +kernel
theorem dX8_spoilSheet_206 : decode cX8_spoilSheet 206 = .ok (.ireturn, 1) := by decide +kernel
theorem dX8_printed_0 : decode cX8_printed 0 = .ok (.iconst 0, 1) := by decide +kernel
theorem dX8_printed_1 : decode cX8_printed 1 = .ok (.istore_n 2, 1) := by decide +kernel
theorem dX8_printed_2 : decode cX8_printed 2 = .ok (.iconst 0, 1) := by decide +kernel
theorem dX8_printed_3 : decode cX8_printed 3 = .ok (.istore_n 3, 1) := by decide +kernel
theorem dX8_printed_4 : decode cX8_printed 4 = .ok (.iload_n 3, 1) := by decide +kernel
theorem dX8_printed_5 : decode cX8_printed 5 = .ok (.aload_n 0, 1) := by decide +kernel
theorem dX8_printed_6 : decode cX8_printed 6 = .ok (.getfield 13, 3) := by decide +kernel
theorem dX8_printed_9 : decode cX8_printed 9 = .ok (.bipush 22, 2) := by decide +kernel
theorem dX8_printed_11 : decode cX8_printed 11 = .ok (.iaload, 1) := by decide +kernel
theorem dX8_printed_12 : decode cX8_printed 12 = .ok (.if_icmp .ge 29, 3) := by decide +kernel
theorem dX8_printed_15 : decode cX8_printed 15 = .ok (.iload_n 2, 1) := by decide +kernel
theorem dX8_printed_16 : decode cX8_printed 16 = .ok (.aload_n 0, 1) := by decide +kernel
theorem dX8_printed_17 : decode cX8_printed 17 = .ok (.getfield 19, 3) := by decide +kernel
theorem dX8_printed_20 : decode cX8_printed 20 = .ok (.iconst 4, 1) := by decide +kernel
theorem dX8_printed_21 : decode cX8_printed 21 = .ok (.iload_n 1, 1) := by decide +kernel
theorem dX8_printed_22 : decode cX8_printed 22 = .ok (.imul, 1) := by decide +kernel
theorem dX8_printed_23 : decode cX8_printed 23 = .ok (.iload_n 3, 1) := by decide +kernel
theorem dX8_printed_24 : decode cX8_printed 24 = .ok (.iadd, 1) := by decide +kernel
theorem dX8_printed_25 : decode cX8_printed 25 = .ok (.iaload, 1) := by decide +kernel
theorem dX8_printed_26 : decode cX8_printed 26 = .ok (.aload_n 0, 1) := by decide +kernel
theorem dX8_printed_27 : decode cX8_printed 27 = .ok (.getfield 13, 3) := by decide +kernel
theorem dX8_printed_30 : decode cX8_printed 30 = .ok (.iload_n 3, 1) := by decide +kernel
theorem dX8_printed_31 : decode cX8_printed 31 = .ok (.iaload, 1) := by decide +kernel
theorem dX8_printed_32 : decode cX8_printed 32 = .ok (.imul, 1) := by decide +kernel
theorem dX8_printed_33 : decode cX8_printed 33 = .ok (.iadd, 1) := by decide +kernel
theorem dX8_printed_34 : decode cX8_printed 34 = .ok (.istore_n 2, 1) := by decide +kernel
theorem dX8_printed_35 : decode cX8_printed 35 = .ok (.iinc 3 1, 3) := by decide +kernel
theorem dX8_printed_38 : decode cX8_printed 38 = .ok (.goto (-34), 3) := by decide +kernel
theorem dX8_printed_41 : decode cX8_printed 41 = .ok (.iload_n 2, 1) := by decide +kernel
theorem dX8_printed_42 : decode cX8_printed 42 = .ok (.ireturn, 1) := by decide +kernel
theorem dX8_spoiled_0 : decode cX8_spoiled 0 = .ok (.iconst 0, 1) := by decide +kernel
theorem dX8_spoiled_1 : decode cX8_spoiled 1 = .ok (.istore_n 2, 1) := by decide +kernel
theorem dX8_spoiled_2 : decode cX8_spoiled 2 = .ok (.iconst 0, 1) := by decide +kernel
theorem dX8_spoiled_3 : decode cX8_spoiled 3 = .ok (.istore_n 3, 1) := by decide +kernel
theorem dX8_spoiled_4 : decode cX8_spoiled 4 = .ok (.iload_n 3, 1) := by decide +kernel
theorem dX8_spoiled_5 : decode cX8_spoiled 5 = .ok (.aload_n 0, 1) := by decide +kernel
theorem dX8_spoiled_6 : decode cX8_spoiled 6 = .ok (.getfield 19, 3) := by decide +kernel
theorem dX8_spoiled_9 : decode cX8_spoiled 9 = .ok (.bipush 111, 2) := by decide +kernel
theorem dX8_spoiled_11 : decode cX8_spoiled 11 = .ok (.iaload, 1) := by decide +kernel
theorem dX8_spoiled_12 : decode cX8_spoiled 12 = .ok (.if_icmp .ge 34, 3) := by decide +kernel
theorem dX8_spoiled_15 : decode cX8_spoiled 15 = .ok (.iload_n 2, 1) := by decide +kernel
theorem dX8_spoiled_16 : decode cX8_spoiled 16 = .ok (.aload_n 0, 1) := by decide +kernel
theorem dX8_spoiled_17 : decode cX8_spoiled 17 = .ok (.getfield 19, 3) := by decide +kernel
theorem dX8_spoiled_20 : decode cX8_spoiled 20 = .ok (.bipush 12, 2) := by decide +kernel
theorem dX8_spoiled_22 : decode cX8_spoiled 22 = .ok (.iload_n 3, 1) := by decide +kernel
theorem dX8_spoiled_23 : decode cX8_spoiled 23 = .ok (.iadd, 1) := by decide +kernel
theorem dX8_spoiled_24 : decode cX8_spoiled 24 = .ok (.iaload, 1) := by decide +kernel
theorem dX8_spoiled_25 : decode cX8_spoiled 25 = .ok (.sipush 1000, 3) := by decide +kernel
theorem dX8_spoiled_28 : decode cX8_spoiled 28 = .ok (.idiv, 1) := by decide +kernel
theorem dX8_spoiled_29 : decode cX8_spoiled 29 = .ok (.iload_n 1, 1) := by decide +kernel
theorem dX8_spoiled_30 : decode cX8_spoiled 30 = .ok (.if_icmp .ne 7, 3) := by decide +kernel
theorem dX8_spoiled_33 : decode cX8_spoiled 33 = .ok (.iconst 1, 1) := by decide +kernel
theorem dX8_spoiled_34 : decode cX8_spoiled 34 = .ok (.goto 4, 3) := by decide +kernel
theorem dX8_spoiled_37 : decode cX8_spoiled 37 = .ok (.iconst 0, 1) := by decide +kernel
theorem dX8_spoiled_38 : decode cX8_spoiled 38 = .ok (.iadd, 1) := by decide +kernel
theorem dX8_spoiled_39 : decode cX8_spoiled 39 = .ok (.istore_n 2, 1) := by decide +kernel
theorem dX8_spoiled_40 : decode cX8_spoiled 40 = .ok (.iinc 3 1, 3) := by decide +kernel
theorem dX8_spoiled_43 : decode cX8_spoiled 43 = .ok (.goto (-39), 3) := by decide +kernel
theorem dX8_spoiled_46 : decode cX8_spoiled 46 = .ok (.iload_n 2, 1) := by decide +kernel
theorem dX8_spoiled_47 : decode cX8_spoiled 47 = .ok (.ireturn, 1) := by decide +kernel
theorem dX8_leftOf_0 : decode cX8_leftOf 0 = .ok (.iconst 0, 1) := by decide +kernel
theorem dX8_leftOf_1 : decode cX8_leftOf 1 = .ok (.istore_n 2, 1) := by decide +kernel
theorem dX8_leftOf_2 : decode cX8_leftOf 2 = .ok (.iconst 0, 1) := by decide +kernel
theorem dX8_leftOf_3 : decode cX8_leftOf 3 = .ok (.istore_n 3, 1) := by decide +kernel
theorem dX8_leftOf_4 : decode cX8_leftOf 4 = .ok (.iload_n 3, 1) := by decide +kernel
theorem dX8_leftOf_5 : decode cX8_leftOf 5 = .ok (.aload_n 0, 1) := by decide +kernel
theorem dX8_leftOf_6 : decode cX8_leftOf 6 = .ok (.getfield 13, 3) := by decide +kernel
theorem dX8_leftOf_9 : decode cX8_leftOf 9 = .ok (.bipush 22, 2) := by decide +kernel
theorem dX8_leftOf_11 : decode cX8_leftOf 11 = .ok (.iaload, 1) := by decide +kernel
theorem dX8_leftOf_12 : decode cX8_leftOf 12 = .ok (.if_icmp .ge 29, 3) := by decide +kernel
theorem dX8_leftOf_15 : decode cX8_leftOf 15 = .ok (.iload_n 2, 1) := by decide +kernel
theorem dX8_leftOf_16 : decode cX8_leftOf 16 = .ok (.aload_n 0, 1) := by decide +kernel
theorem dX8_leftOf_17 : decode cX8_leftOf 17 = .ok (.iload_n 1, 1) := by decide +kernel
theorem dX8_leftOf_18 : decode cX8_leftOf 18 = .ok (.iload_n 3, 1) := by decide +kernel
theorem dX8_leftOf_19 : decode cX8_leftOf 19 = .ok (.invokevirtual 87, 3) := by decide +kernel
theorem dX8_leftOf_22 : decode cX8_leftOf 22 = .ok (.aload_n 0, 1) := by decide +kernel
theorem dX8_leftOf_23 : decode cX8_leftOf 23 = .ok (.getfield 19, 3) := by decide +kernel
theorem dX8_leftOf_26 : decode cX8_leftOf 26 = .ok (.iconst 4, 1) := by decide +kernel
theorem dX8_leftOf_27 : decode cX8_leftOf 27 = .ok (.iload_n 1, 1) := by decide +kernel
theorem dX8_leftOf_28 : decode cX8_leftOf 28 = .ok (.imul, 1) := by decide +kernel
theorem dX8_leftOf_29 : decode cX8_leftOf 29 = .ok (.iload_n 3, 1) := by decide +kernel
theorem dX8_leftOf_30 : decode cX8_leftOf 30 = .ok (.iadd, 1) := by decide +kernel
theorem dX8_leftOf_31 : decode cX8_leftOf 31 = .ok (.iaload, 1) := by decide +kernel
theorem dX8_leftOf_32 : decode cX8_leftOf 32 = .ok (.isub, 1) := by decide +kernel
theorem dX8_leftOf_33 : decode cX8_leftOf 33 = .ok (.iadd, 1) := by decide +kernel
theorem dX8_leftOf_34 : decode cX8_leftOf 34 = .ok (.istore_n 2, 1) := by decide +kernel
theorem dX8_leftOf_35 : decode cX8_leftOf 35 = .ok (.iinc 3 1, 3) := by decide +kernel
theorem dX8_leftOf_38 : decode cX8_leftOf 38 = .ok (.goto (-34), 3) := by decide +kernel
theorem dX8_leftOf_41 : decode cX8_leftOf 41 = .ok (.iload_n 2, 1) := by decide +kernel
theorem dX8_leftOf_42 : decode cX8_leftOf 42 = .ok (.ireturn, 1) := by decide +kernel
theorem dX8_packs_0 : decode cX8_packs 0 = .ok (.aload_n 0, 1) := by decide +kernel
theorem dX8_packs_1 : decode cX8_packs 1 = .ok (.getfield 13, 3) := by decide +kernel
theorem dX8_packs_4 : decode cX8_packs 4 = .ok (.iload_n 1, 1) := by decide +kernel
theorem dX8_packs_5 : decode cX8_packs 5 = .ok (.invokestatic 64, 3) := by decide +kernel
theorem dX8_packs_8 : decode cX8_packs 8 = .ok (.bipush 9, 2) := by decide +kernel
theorem dX8_packs_10 : decode cX8_packs 10 = .ok (.iadd, 1) := by decide +kernel
theorem dX8_packs_11 : decode cX8_packs 11 = .ok (.bipush 10, 2) := by decide +kernel
theorem dX8_packs_13 : decode cX8_packs 13 = .ok (.idiv, 1) := by decide +kernel
theorem dX8_packs_14 : decode cX8_packs 14 = .ok (.ireturn, 1) := by decide +kernel
theorem dX8_isWhole_0 : decode cX8_isWhole 0 = .ok (.bipush 10, 2) := by decide +kernel
theorem dX8_isWhole_2 : decode cX8_isWhole 2 = .ok (.iload_n 2, 1) := by decide +kernel
theorem dX8_isWhole_3 : decode cX8_isWhole 3 = .ok (.imul, 1) := by decide +kernel
theorem dX8_isWhole_4 : decode cX8_isWhole 4 = .ok (.istore_n 3, 1) := by decide +kernel
theorem dX8_isWhole_5 : decode cX8_isWhole 5 = .ok (.iload_n 3, 1) := by decide +kernel
theorem dX8_isWhole_6 : decode cX8_isWhole 6 = .ok (.bipush 10, 2) := by decide +kernel
theorem dX8_isWhole_8 : decode cX8_isWhole 8 = .ok (.iload_n 2, 1) := by decide +kernel
theorem dX8_isWhole_9 : decode cX8_isWhole 9 = .ok (.imul, 1) := by decide +kernel
theorem dX8_isWhole_10 : decode cX8_isWhole 10 = .ok (.bipush 10, 2) := by decide +kernel
theorem dX8_isWhole_12 : decode cX8_isWhole 12 = .ok (.iadd, 1) := by decide +kernel
theorem dX8_isWhole_13 : decode cX8_isWhole 13 = .ok (.if_icmp .ge 32, 3) := by decide +kernel
theorem dX8_isWhole_16 : decode cX8_isWhole 16 = .ok (.iload_n 3, 1) := by decide +kernel
theorem dX8_isWhole_17 : decode cX8_isWhole 17 = .ok (.aload_n 0, 1) := by decide +kernel
theorem dX8_isWhole_18 : decode cX8_isWhole 18 = .ok (.getfield 13, 3) := by decide +kernel
theorem dX8_isWhole_21 : decode cX8_isWhole 21 = .ok (.iload_n 1, 1) := by decide +kernel
theorem dX8_isWhole_22 : decode cX8_isWhole 22 = .ok (.invokestatic 64, 3) := by decide +kernel
theorem dX8_isWhole_25 : decode cX8_isWhole 25 = .ok (.if_icmp .ge 20, 3) := by decide +kernel
theorem dX8_isWhole_28 : decode cX8_isWhole 28 = .ok (.aload_n 0, 1) := by decide +kernel
theorem dX8_isWhole_29 : decode cX8_isWhole 29 = .ok (.iload_n 1, 1) := by decide +kernel
theorem dX8_isWhole_30 : decode cX8_isWhole 30 = .ok (.iload_n 3, 1) := by decide +kernel
theorem dX8_isWhole_31 : decode cX8_isWhole 31 = .ok (.invokevirtual 125, 3) := by decide +kernel
theorem dX8_isWhole_34 : decode cX8_isWhole 34 = .ok (.ifCond .ne 5, 3) := by decide +kernel
theorem dX8_isWhole_37 : decode cX8_isWhole 37 = .ok (.iconst 0, 1) := by decide +kernel
theorem dX8_isWhole_38 : decode cX8_isWhole 38 = .ok (.ireturn, 1) := by decide +kernel
theorem dX8_isWhole_39 : decode cX8_isWhole 39 = .ok (.iinc 3 1, 3) := by decide +kernel
theorem dX8_isWhole_42 : decode cX8_isWhole 42 = .ok (.goto (-37), 3) := by decide +kernel
theorem dX8_isWhole_45 : decode cX8_isWhole 45 = .ok (.iconst 1, 1) := by decide +kernel
theorem dX8_isWhole_46 : decode cX8_isWhole 46 = .ok (.ireturn, 1) := by decide +kernel
theorem dX8_wholes_0 : decode cX8_wholes 0 = .ok (.iconst 0, 1) := by decide +kernel
theorem dX8_wholes_1 : decode cX8_wholes 1 = .ok (.istore_n 2, 1) := by decide +kernel
theorem dX8_wholes_2 : decode cX8_wholes 2 = .ok (.iconst 0, 1) := by decide +kernel
theorem dX8_wholes_3 : decode cX8_wholes 3 = .ok (.istore_n 3, 1) := by decide +kernel
theorem dX8_wholes_4 : decode cX8_wholes 4 = .ok (.iload_n 3, 1) := by decide +kernel
theorem dX8_wholes_5 : decode cX8_wholes 5 = .ok (.aload_n 0, 1) := by decide +kernel
theorem dX8_wholes_6 : decode cX8_wholes 6 = .ok (.iload_n 1, 1) := by decide +kernel
theorem dX8_wholes_7 : decode cX8_wholes 7 = .ok (.invokevirtual 138, 3) := by decide +kernel
theorem dX8_wholes_10 : decode cX8_wholes 10 = .ok (.if_icmp .ge 26, 3) := by decide +kernel
theorem dX8_wholes_13 : decode cX8_wholes 13 = .ok (.iload_n 2, 1) := by decide +kernel
theorem dX8_wholes_14 : decode cX8_wholes 14 = .ok (.aload_n 0, 1) := by decide +kernel
theorem dX8_wholes_15 : decode cX8_wholes 15 = .ok (.iload_n 1, 1) := by decide +kernel
theorem dX8_wholes_16 : decode cX8_wholes 16 = .ok (.iload_n 3, 1) := by decide +kernel
theorem dX8_wholes_17 : decode cX8_wholes 17 = .ok (.invokevirtual 141, 3) := by decide +kernel
theorem dX8_wholes_20 : decode cX8_wholes 20 = .ok (.ifCond .eq 7, 3) := by decide +kernel
theorem dX8_wholes_23 : decode cX8_wholes 23 = .ok (.iconst 1, 1) := by decide +kernel
theorem dX8_wholes_24 : decode cX8_wholes 24 = .ok (.goto 4, 3) := by decide +kernel
theorem dX8_wholes_27 : decode cX8_wholes 27 = .ok (.iconst 0, 1) := by decide +kernel
theorem dX8_wholes_28 : decode cX8_wholes 28 = .ok (.iadd, 1) := by decide +kernel
theorem dX8_wholes_29 : decode cX8_wholes 29 = .ok (.istore_n 2, 1) := by decide +kernel
theorem dX8_wholes_30 : decode cX8_wholes 30 = .ok (.iinc 3 1, 3) := by decide +kernel
theorem dX8_wholes_33 : decode cX8_wholes 33 = .ok (.goto (-29), 3) := by decide +kernel
theorem dX8_wholes_36 : decode cX8_wholes 36 = .ok (.iload_n 2, 1) := by decide +kernel
theorem dX8_wholes_37 : decode cX8_wholes 37 = .ok (.ireturn, 1) := by decide +kernel
theorem dX8_series_0 : decode cX8_series 0 = .ok (.aload_n 0, 1) := by decide +kernel
theorem dX8_series_1 : decode cX8_series 1 = .ok (.iload_n 1, 1) := by decide +kernel
theorem dX8_series_2 : decode cX8_series 2 = .ok (.invokevirtual 84, 3) := by decide +kernel
theorem dX8_series_5 : decode cX8_series 5 = .ok (.ifCond .eq 15, 3) := by decide +kernel
theorem dX8_series_8 : decode cX8_series 8 = .ok (.iload_n 2, 1) := by decide +kernel
theorem dX8_series_9 : decode cX8_series 9 = .ok (.i2l, 1) := by decide +kernel
theorem dX8_series_10 : decode cX8_series 10 = .ok (.lconst 0, 1) := by decide +kernel
theorem dX8_series_11 : decode cX8_series 11 = .ok (.ldc2_w 144, 3) := by decide +kernel
theorem dX8_series_14 : decode cX8_series 14 = .ok (.invokestatic 33, 3) := by decide +kernel
theorem dX8_series_17 : decode cX8_series 17 = .ok (.ifCond .ne 5, 3) := by decide +kernel
theorem dX8_series_20 : decode cX8_series 20 = .ok (.iconst (-1), 1) := by decide +kernel
theorem dX8_series_21 : decode cX8_series 21 = .ok (.ireturn, 1) := by decide +kernel
theorem dX8_series_22 : decode cX8_series 22 = .ok (.iload_n 2, 1) := by decide +kernel
theorem dX8_series_23 : decode cX8_series 23 = .ok (.tableswitch 88 0 6 #[41, 41, 55, 64, 70, 76, 82], 41) := by decide +kernel
theorem dX8_series_64 : decode cX8_series 64 = .ok (.aload_n 0, 1) := by decide +kernel
theorem dX8_series_65 : decode cX8_series 65 = .ok (.getfield 13, 3) := by decide +kernel
theorem dX8_series_68 : decode cX8_series 68 = .ok (.iconst 4, 1) := by decide +kernel
theorem dX8_series_69 : decode cX8_series 69 = .ok (.bipush 6, 2) := by decide +kernel
theorem dX8_series_71 : decode cX8_series 71 = .ok (.iload_n 1, 1) := by decide +kernel
theorem dX8_series_72 : decode cX8_series 72 = .ok (.imul, 1) := by decide +kernel
theorem dX8_series_73 : decode cX8_series 73 = .ok (.iadd, 1) := by decide +kernel
theorem dX8_series_74 : decode cX8_series 74 = .ok (.iload_n 2, 1) := by decide +kernel
theorem dX8_series_75 : decode cX8_series 75 = .ok (.iadd, 1) := by decide +kernel
theorem dX8_series_76 : decode cX8_series 76 = .ok (.iaload, 1) := by decide +kernel
theorem dX8_series_77 : decode cX8_series 77 = .ok (.ireturn, 1) := by decide +kernel
theorem dX8_series_78 : decode cX8_series 78 = .ok (.aload_n 0, 1) := by decide +kernel
theorem dX8_series_79 : decode cX8_series 79 = .ok (.getfield 13, 3) := by decide +kernel
theorem dX8_series_82 : decode cX8_series 82 = .ok (.iload_n 1, 1) := by decide +kernel
theorem dX8_series_83 : decode cX8_series 83 = .ok (.invokestatic 64, 3) := by decide +kernel
theorem dX8_series_86 : decode cX8_series 86 = .ok (.ireturn, 1) := by decide +kernel
theorem dX8_series_87 : decode cX8_series 87 = .ok (.aload_n 0, 1) := by decide +kernel
theorem dX8_series_88 : decode cX8_series 88 = .ok (.iload_n 1, 1) := by decide +kernel
theorem dX8_series_89 : decode cX8_series 89 = .ok (.invokevirtual 146, 3) := by decide +kernel
theorem dX8_series_92 : decode cX8_series 92 = .ok (.ireturn, 1) := by decide +kernel
theorem dX8_series_93 : decode cX8_series 93 = .ok (.aload_n 0, 1) := by decide +kernel
theorem dX8_series_94 : decode cX8_series 94 = .ok (.iload_n 1, 1) := by decide +kernel
theorem dX8_series_95 : decode cX8_series 95 = .ok (.invokevirtual 149, 3) := by decide +kernel
theorem dX8_series_98 : decode cX8_series 98 = .ok (.ireturn, 1) := by decide +kernel
theorem dX8_series_99 : decode cX8_series 99 = .ok (.aload_n 0, 1) := by decide +kernel
theorem dX8_series_100 : decode cX8_series 100 = .ok (.iload_n 1, 1) := by decide +kernel
theorem dX8_series_101 : decode cX8_series 101 = .ok (.invokevirtual 152, 3) := by decide +kernel
theorem dX8_series_104 : decode cX8_series 104 = .ok (.ireturn, 1) := by decide +kernel
theorem dX8_series_105 : decode cX8_series 105 = .ok (.aload_n 0, 1) := by decide +kernel
theorem dX8_series_106 : decode cX8_series 106 = .ok (.iload_n 1, 1) := by decide +kernel
theorem dX8_series_107 : decode cX8_series 107 = .ok (.invokevirtual 138, 3) := by decide +kernel
theorem dX8_series_110 : decode cX8_series 110 = .ok (.ireturn, 1) := by decide +kernel
theorem dX8_series_111 : decode cX8_series 111 = .ok (.aload_n 0, 1) := by decide +kernel
theorem dX8_series_112 : decode cX8_series 112 = .ok (.iload_n 1, 1) := by decide +kernel
theorem dX8_series_113 : decode cX8_series 113 = .ok (.invokevirtual 155, 3) := by decide +kernel
theorem dX8_series_116 : decode cX8_series 116 = .ok (.ireturn, 1) := by decide +kernel
theorem dX8_share_0 : decode cX8_share 0 = .ok (.aload_n 0, 1) := by decide +kernel
theorem dX8_share_1 : decode cX8_share 1 = .ok (.iload_n 1, 1) := by decide +kernel
theorem dX8_share_2 : decode cX8_share 2 = .ok (.invokevirtual 84, 3) := by decide +kernel
theorem dX8_share_5 : decode cX8_share 5 = .ok (.ifCond .eq 23, 3) := by decide +kernel
theorem dX8_share_8 : decode cX8_share 8 = .ok (.aload_n 0, 1) := by decide +kernel
theorem dX8_share_9 : decode cX8_share 9 = .ok (.iload_n 2, 1) := by decide +kernel
theorem dX8_share_10 : decode cX8_share 10 = .ok (.invokevirtual 113, 3) := by decide +kernel
theorem dX8_share_13 : decode cX8_share 13 = .ok (.ifCond .eq 15, 3) := by decide +kernel
theorem dX8_share_16 : decode cX8_share 16 = .ok (.iload_n 3, 1) := by decide +kernel
theorem dX8_share_17 : decode cX8_share 17 = .ok (.i2l, 1) := by decide +kernel
theorem dX8_share_18 : decode cX8_share 18 = .ok (.lconst 0, 1) := by decide +kernel
theorem dX8_share_19 : decode cX8_share 19 = .ok (.ldc2_w 158, 3) := by decide +kernel
theorem dX8_share_22 : decode cX8_share 22 = .ok (.invokestatic 33, 3) := by decide +kernel
theorem dX8_share_25 : decode cX8_share 25 = .ok (.ifCond .ne 5, 3) := by decide +kernel
theorem dX8_share_28 : decode cX8_share 28 = .ok (.iconst (-1), 1) := by decide +kernel
theorem dX8_share_29 : decode cX8_share 29 = .ok (.ireturn, 1) := by decide +kernel
theorem dX8_share_30 : decode cX8_share 30 = .ok (.iload_n 3, 1) := by decide +kernel
theorem dX8_share_31 : decode cX8_share 31 = .ok (.ifCond .ne 12, 3) := by decide +kernel
theorem dX8_share_34 : decode cX8_share 34 = .ok (.aload_n 0, 1) := by decide +kernel
theorem dX8_share_35 : decode cX8_share 35 = .ok (.iload_n 1, 1) := by decide +kernel
theorem dX8_share_36 : decode cX8_share 36 = .ok (.iload_n 2, 1) := by decide +kernel
theorem dX8_share_37 : decode cX8_share 37 = .ok (.invokevirtual 87, 3) := by decide +kernel
theorem dX8_share_40 : decode cX8_share 40 = .ok (.goto 41, 3) := by decide +kernel
theorem dX8_share_43 : decode cX8_share 43 = .ok (.iload_n 3, 1) := by decide +kernel
theorem dX8_share_44 : decode cX8_share 44 = .ok (.iconst 1, 1) := by decide +kernel
theorem dX8_share_45 : decode cX8_share 45 = .ok (.if_icmp .ne 16, 3) := by decide +kernel
theorem dX8_share_48 : decode cX8_share 48 = .ok (.aload_n 0, 1) := by decide +kernel
theorem dX8_share_49 : decode cX8_share 49 = .ok (.getfield 19, 3) := by decide +kernel
theorem dX8_share_52 : decode cX8_share 52 = .ok (.iconst 4, 1) := by decide +kernel
theorem dX8_share_53 : decode cX8_share 53 = .ok (.iload_n 1, 1) := by decide +kernel
theorem dX8_share_54 : decode cX8_share 54 = .ok (.imul, 1) := by decide +kernel
theorem dX8_share_55 : decode cX8_share 55 = .ok (.iload_n 2, 1) := by decide +kernel
theorem dX8_share_56 : decode cX8_share 56 = .ok (.iadd, 1) := by decide +kernel
theorem dX8_share_57 : decode cX8_share 57 = .ok (.iaload, 1) := by decide +kernel
theorem dX8_share_58 : decode cX8_share 58 = .ok (.goto 23, 3) := by decide +kernel
theorem dX8_share_61 : decode cX8_share 61 = .ok (.iload_n 3, 1) := by decide +kernel
theorem dX8_share_62 : decode cX8_share 62 = .ok (.iconst 2, 1) := by decide +kernel
theorem dX8_share_63 : decode cX8_share 63 = .ok (.if_icmp .ne 12, 3) := by decide +kernel
theorem dX8_share_66 : decode cX8_share 66 = .ok (.aload_n 0, 1) := by decide +kernel
theorem dX8_share_67 : decode cX8_share 67 = .ok (.iload_n 1, 1) := by decide +kernel
theorem dX8_share_68 : decode cX8_share 68 = .ok (.iload_n 2, 1) := by decide +kernel
theorem dX8_share_69 : decode cX8_share 69 = .ok (.invokevirtual 91, 3) := by decide +kernel
theorem dX8_share_72 : decode cX8_share 72 = .ok (.goto 9, 3) := by decide +kernel
theorem dX8_share_75 : decode cX8_share 75 = .ok (.aload_n 0, 1) := by decide +kernel
theorem dX8_share_76 : decode cX8_share 76 = .ok (.getfield 13, 3) := by decide +kernel
theorem dX8_share_79 : decode cX8_share 79 = .ok (.iload_n 2, 1) := by decide +kernel
theorem dX8_share_80 : decode cX8_share 80 = .ok (.iaload, 1) := by decide +kernel
theorem dX8_share_81 : decode cX8_share 81 = .ok (.ireturn, 1) := by decide +kernel
theorem dX8_where_0 : decode cX8_where 0 = .ok (.aload_n 0, 1) := by decide +kernel
theorem dX8_where_1 : decode cX8_where 1 = .ok (.iload_n 1, 1) := by decide +kernel
theorem dX8_where_2 : decode cX8_where 2 = .ok (.iload_n 2, 1) := by decide +kernel
theorem dX8_where_3 : decode cX8_where 3 = .ok (.invokevirtual 121, 3) := by decide +kernel
theorem dX8_where_6 : decode cX8_where 6 = .ok (.ifCond .eq 15, 3) := by decide +kernel
theorem dX8_where_9 : decode cX8_where 9 = .ok (.iload_n 3, 1) := by decide +kernel
theorem dX8_where_10 : decode cX8_where 10 = .ok (.i2l, 1) := by decide +kernel
theorem dX8_where_11 : decode cX8_where 11 = .ok (.lconst 0, 1) := by decide +kernel
theorem dX8_where_12 : decode cX8_where 12 = .ok (.ldc2_w 160, 3) := by decide +kernel
theorem dX8_where_15 : decode cX8_where 15 = .ok (.invokestatic 33, 3) := by decide +kernel
theorem dX8_where_18 : decode cX8_where 18 = .ok (.ifCond .ne 5, 3) := by decide +kernel
theorem dX8_where_21 : decode cX8_where 21 = .ok (.iconst (-1), 1) := by decide +kernel
theorem dX8_where_22 : decode cX8_where 22 = .ok (.ireturn, 1) := by decide +kernel
theorem dX8_where_23 : decode cX8_where 23 = .ok (.aload_n 0, 1) := by decide +kernel
theorem dX8_where_24 : decode cX8_where 24 = .ok (.iload_n 1, 1) := by decide +kernel
theorem dX8_where_25 : decode cX8_where 25 = .ok (.iload_n 2, 1) := by decide +kernel
theorem dX8_where_26 : decode cX8_where 26 = .ok (.invokevirtual 94, 3) := by decide +kernel
theorem dX8_where_29 : decode cX8_where 29 = .ok (.istore 4, 2) := by decide +kernel
theorem dX8_where_31 : decode cX8_where 31 = .ok (.iload_n 3, 1) := by decide +kernel
theorem dX8_where_32 : decode cX8_where 32 = .ok (.ifCond .ne 8, 3) := by decide +kernel
theorem dX8_where_35 : decode cX8_where 35 = .ok (.iload 4, 2) := by decide +kernel
theorem dX8_where_37 : decode cX8_where 37 = .ok (.goto 34, 3) := by decide +kernel
theorem dX8_where_40 : decode cX8_where 40 = .ok (.iload_n 3, 1) := by decide +kernel
theorem dX8_where_41 : decode cX8_where 41 = .ok (.iconst 1, 1) := by decide +kernel
theorem dX8_where_42 : decode cX8_where 42 = .ok (.if_icmp .ne 12, 3) := by decide +kernel
theorem dX8_where_45 : decode cX8_where 45 = .ok (.aload_n 0, 1) := by decide +kernel
theorem dX8_where_46 : decode cX8_where 46 = .ok (.iload_n 1, 1) := by decide +kernel
theorem dX8_where_47 : decode cX8_where 47 = .ok (.iload_n 2, 1) := by decide +kernel
theorem dX8_where_48 : decode cX8_where 48 = .ok (.invokevirtual 97, 3) := by decide +kernel
theorem dX8_where_51 : decode cX8_where 51 = .ok (.goto 20, 3) := by decide +kernel
theorem dX8_where_54 : decode cX8_where 54 = .ok (.iload_n 2, 1) := by decide +kernel
theorem dX8_where_55 : decode cX8_where 55 = .ok (.aload_n 0, 1) := by decide +kernel
theorem dX8_where_56 : decode cX8_where 56 = .ok (.iload_n 1, 1) := by decide +kernel
theorem dX8_where_57 : decode cX8_where 57 = .ok (.iload 4, 2) := by decide +kernel
theorem dX8_where_59 : decode cX8_where 59 = .ok (.invokevirtual 91, 3) := by decide +kernel
theorem dX8_where_62 : decode cX8_where 62 = .ok (.isub, 1) := by decide +kernel
theorem dX8_where_63 : decode cX8_where 63 = .ok (.aload_n 0, 1) := by decide +kernel
theorem dX8_where_64 : decode cX8_where 64 = .ok (.iload_n 1, 1) := by decide +kernel
theorem dX8_where_65 : decode cX8_where 65 = .ok (.iload 4, 2) := by decide +kernel
theorem dX8_where_67 : decode cX8_where 67 = .ok (.invokevirtual 87, 3) := by decide +kernel
theorem dX8_where_70 : decode cX8_where 70 = .ok (.idiv, 1) := by decide +kernel
theorem dX8_where_71 : decode cX8_where 71 = .ok (.ireturn, 1) := by decide +kernel
theorem dX8_number_0 : decode cX8_number 0 = .ok (.aload_n 0, 1) := by decide +kernel
theorem dX8_number_1 : decode cX8_number 1 = .ok (.iload_n 1, 1) := by decide +kernel
theorem dX8_number_2 : decode cX8_number 2 = .ok (.invokevirtual 84, 3) := by decide +kernel
theorem dX8_number_5 : decode cX8_number 5 = .ok (.ifCond .eq 52, 3) := by decide +kernel
theorem dX8_number_8 : decode cX8_number 8 = .ok (.aload_n 0, 1) := by decide +kernel
theorem dX8_number_9 : decode cX8_number 9 = .ok (.iload_n 2, 1) := by decide +kernel
theorem dX8_number_10 : decode cX8_number 10 = .ok (.invokevirtual 113, 3) := by decide +kernel
theorem dX8_number_13 : decode cX8_number 13 = .ok (.ifCond .eq 44, 3) := by decide +kernel
theorem dX8_number_16 : decode cX8_number 16 = .ok (.iload_n 3, 1) := by decide +kernel
theorem dX8_number_17 : decode cX8_number 17 = .ok (.i2l, 1) := by decide +kernel
theorem dX8_number_18 : decode cX8_number 18 = .ok (.lconst 0, 1) := by decide +kernel
theorem dX8_number_19 : decode cX8_number 19 = .ok (.aload_n 0, 1) := by decide +kernel
theorem dX8_number_20 : decode cX8_number 20 = .ok (.iload_n 1, 1) := by decide +kernel
theorem dX8_number_21 : decode cX8_number 21 = .ok (.iload_n 2, 1) := by decide +kernel
theorem dX8_number_22 : decode cX8_number 22 = .ok (.invokevirtual 87, 3) := by decide +kernel
theorem dX8_number_25 : decode cX8_number 25 = .ok (.iconst 1, 1) := by decide +kernel
theorem dX8_number_26 : decode cX8_number 26 = .ok (.isub, 1) := by decide +kernel
theorem dX8_number_27 : decode cX8_number 27 = .ok (.i2l, 1) := by decide +kernel
theorem dX8_number_28 : decode cX8_number 28 = .ok (.invokestatic 33, 3) := by decide +kernel
theorem dX8_number_31 : decode cX8_number 31 = .ok (.ifCond .eq 26, 3) := by decide +kernel
theorem dX8_number_34 : decode cX8_number 34 = .ok (.iload 4, 2) := by decide +kernel
theorem dX8_number_36 : decode cX8_number 36 = .ok (.i2l, 1) := by decide +kernel
theorem dX8_number_37 : decode cX8_number 37 = .ok (.lconst 0, 1) := by decide +kernel
theorem dX8_number_38 : decode cX8_number 38 = .ok (.aload_n 0, 1) := by decide +kernel
theorem dX8_number_39 : decode cX8_number 39 = .ok (.getfield 13, 3) := by decide +kernel
theorem dX8_number_42 : decode cX8_number 42 = .ok (.iload_n 2, 1) := by decide +kernel
theorem dX8_number_43 : decode cX8_number 43 = .ok (.iaload, 1) := by decide +kernel
theorem dX8_number_44 : decode cX8_number 44 = .ok (.iconst 1, 1) := by decide +kernel
theorem dX8_number_45 : decode cX8_number 45 = .ok (.isub, 1) := by decide +kernel
theorem dX8_number_46 : decode cX8_number 46 = .ok (.i2l, 1) := by decide +kernel
theorem dX8_number_47 : decode cX8_number 47 = .ok (.invokestatic 33, 3) := by decide +kernel
theorem dX8_number_50 : decode cX8_number 50 = .ok (.ifCond .eq 7, 3) := by decide +kernel
theorem dX8_number_53 : decode cX8_number 53 = .ok (.iconst 1, 1) := by decide +kernel
theorem dX8_number_54 : decode cX8_number 54 = .ok (.goto 4, 3) := by decide +kernel
theorem dX8_number_57 : decode cX8_number 57 = .ok (.iconst 0, 1) := by decide +kernel
theorem dX8_number_58 : decode cX8_number 58 = .ok (.istore 5, 2) := by decide +kernel
theorem dX8_number_60 : decode cX8_number 60 = .ok (.iload 5, 2) := by decide +kernel
theorem dX8_number_62 : decode cX8_number 62 = .ok (.ifCond .eq 15, 3) := by decide +kernel
theorem dX8_number_65 : decode cX8_number 65 = .ok (.aload_n 0, 1) := by decide +kernel
theorem dX8_number_66 : decode cX8_number 66 = .ok (.iload_n 1, 1) := by decide +kernel
theorem dX8_number_67 : decode cX8_number 67 = .ok (.iload_n 2, 1) := by decide +kernel
theorem dX8_number_68 : decode cX8_number 68 = .ok (.iload_n 3, 1) := by decide +kernel
theorem dX8_number_69 : decode cX8_number 69 = .ok (.iload 4, 2) := by decide +kernel
theorem dX8_number_71 : decode cX8_number 71 = .ok (.invokevirtual 134, 3) := by decide +kernel
theorem dX8_number_74 : decode cX8_number 74 = .ok (.goto 4, 3) := by decide +kernel
theorem dX8_number_77 : decode cX8_number 77 = .ok (.iconst (-1), 1) := by decide +kernel
theorem dX8_number_78 : decode cX8_number 78 = .ok (.ireturn, 1) := by decide +kernel
theorem dX8_note_0 : decode cX8_note 0 = .ok (.aload_n 0, 1) := by decide +kernel
theorem dX8_note_1 : decode cX8_note 1 = .ok (.iload_n 1, 1) := by decide +kernel
theorem dX8_note_2 : decode cX8_note 2 = .ok (.iload_n 2, 1) := by decide +kernel
theorem dX8_note_3 : decode cX8_note 3 = .ok (.invokevirtual 121, 3) := by decide +kernel
theorem dX8_note_6 : decode cX8_note 6 = .ok (.ifCond .ne 7, 3) := by decide +kernel
theorem dX8_note_9 : decode cX8_note 9 = .ok (.iconst (-1), 1) := by decide +kernel
theorem dX8_note_10 : decode cX8_note 10 = .ok (.goto 32, 3) := by decide +kernel
theorem dX8_note_13 : decode cX8_note 13 = .ok (.aload_n 0, 1) := by decide +kernel
theorem dX8_note_14 : decode cX8_note 14 = .ok (.iload_n 1, 1) := by decide +kernel
theorem dX8_note_15 : decode cX8_note 15 = .ok (.iload_n 2, 1) := by decide +kernel
theorem dX8_note_16 : decode cX8_note 16 = .ok (.invokevirtual 125, 3) := by decide +kernel
theorem dX8_note_19 : decode cX8_note 19 = .ok (.ifCond .ne 7, 3) := by decide +kernel
theorem dX8_note_22 : decode cX8_note 22 = .ok (.iconst 0, 1) := by decide +kernel
theorem dX8_note_23 : decode cX8_note 23 = .ok (.goto 19, 3) := by decide +kernel
theorem dX8_note_26 : decode cX8_note 26 = .ok (.aload_n 0, 1) := by decide +kernel
theorem dX8_note_27 : decode cX8_note 27 = .ok (.iload_n 1, 1) := by decide +kernel
theorem dX8_note_28 : decode cX8_note 28 = .ok (.iload_n 2, 1) := by decide +kernel
theorem dX8_note_29 : decode cX8_note 29 = .ok (.invokevirtual 128, 3) := by decide +kernel
theorem dX8_note_32 : decode cX8_note 32 = .ok (.bipush (-4), 2) := by decide +kernel
theorem dX8_note_34 : decode cX8_note 34 = .ok (.if_icmp .ne 7, 3) := by decide +kernel
theorem dX8_note_37 : decode cX8_note 37 = .ok (.iconst 1, 1) := by decide +kernel
theorem dX8_note_38 : decode cX8_note 38 = .ok (.goto 4, 3) := by decide +kernel
theorem dX8_note_41 : decode cX8_note 41 = .ok (.iconst 2, 1) := by decide +kernel
theorem dX8_note_42 : decode cX8_note 42 = .ok (.ireturn, 1) := by decide +kernel
theorem dX8_star_0 : decode cX8_star 0 = .ok (.iload_n 1, 1) := by decide +kernel
theorem dX8_star_1 : decode cX8_star 1 = .ok (.i2l, 1) := by decide +kernel
theorem dX8_star_2 : decode cX8_star 2 = .ok (.lconst 0, 1) := by decide +kernel
theorem dX8_star_3 : decode cX8_star 3 = .ok (.aload_n 0, 1) := by decide +kernel
theorem dX8_star_4 : decode cX8_star 4 = .ok (.getfield 13, 3) := by decide +kernel
theorem dX8_star_7 : decode cX8_star 7 = .ok (.bipush 24, 2) := by decide +kernel
theorem dX8_star_9 : decode cX8_star 9 = .ok (.iaload, 1) := by decide +kernel
theorem dX8_star_10 : decode cX8_star 10 = .ok (.iconst 1, 1) := by decide +kernel
theorem dX8_star_11 : decode cX8_star 11 = .ok (.isub, 1) := by decide +kernel
theorem dX8_star_12 : decode cX8_star 12 = .ok (.i2l, 1) := by decide +kernel
theorem dX8_star_13 : decode cX8_star 13 = .ok (.invokestatic 33, 3) := by decide +kernel
theorem dX8_star_16 : decode cX8_star 16 = .ok (.ifCond .eq 15, 3) := by decide +kernel
theorem dX8_star_19 : decode cX8_star 19 = .ok (.iload_n 2, 1) := by decide +kernel
theorem dX8_star_20 : decode cX8_star 20 = .ok (.i2l, 1) := by decide +kernel
theorem dX8_star_21 : decode cX8_star 21 = .ok (.lconst 0, 1) := by decide +kernel
theorem dX8_star_22 : decode cX8_star 22 = .ok (.ldc2_w 160, 3) := by decide +kernel
theorem dX8_star_25 : decode cX8_star 25 = .ok (.invokestatic 33, 3) := by decide +kernel
theorem dX8_star_28 : decode cX8_star 28 = .ok (.ifCond .ne 5, 3) := by decide +kernel
theorem dX8_star_31 : decode cX8_star 31 = .ok (.iconst (-1), 1) := by decide +kernel
theorem dX8_star_32 : decode cX8_star 32 = .ok (.ireturn, 1) := by decide +kernel
theorem dX8_star_33 : decode cX8_star 33 = .ok (.iload_n 2, 1) := by decide +kernel
theorem dX8_star_34 : decode cX8_star 34 = .ok (.iconst 2, 1) := by decide +kernel
theorem dX8_star_35 : decode cX8_star 35 = .ok (.if_icmp .ne 12, 3) := by decide +kernel
theorem dX8_star_38 : decode cX8_star 38 = .ok (.iconst 0, 1) := by decide +kernel
theorem dX8_star_39 : decode cX8_star 39 = .ok (.iconst 1, 1) := by decide +kernel
theorem dX8_star_40 : decode cX8_star 40 = .ok (.iload_n 1, 1) := by decide +kernel
theorem dX8_star_41 : decode cX8_star 41 = .ok (.invokestatic 106, 3) := by decide +kernel
theorem dX8_star_44 : decode cX8_star 44 = .ok (.goto 52, 3) := by decide +kernel
theorem dX8_star_47 : decode cX8_star 47 = .ok (.iload_n 1, 1) := by decide +kernel
theorem dX8_star_48 : decode cX8_star 48 = .ok (.aload_n 0, 1) := by decide +kernel
theorem dX8_star_49 : decode cX8_star 49 = .ok (.getfield 19, 3) := by decide +kernel
theorem dX8_star_52 : decode cX8_star 52 = .ok (.bipush 111, 2) := by decide +kernel
theorem dX8_star_54 : decode cX8_star 54 = .ok (.iaload, 1) := by decide +kernel
theorem dX8_star_55 : decode cX8_star 55 = .ok (.if_icmp .lt 8, 3) := by decide +kernel
theorem dX8_star_58 : decode cX8_star 58 = .ok (.bipush (-4), 2) := by decide +kernel
theorem dX8_star_60 : decode cX8_star 60 = .ok (.goto 36, 3) := by decide +kernel
theorem dX8_star_63 : decode cX8_star 63 = .ok (.iload_n 2, 1) := by decide +kernel
theorem dX8_star_64 : decode cX8_star 64 = .ok (.ifCond .ne 19, 3) := by decide +kernel
theorem dX8_star_67 : decode cX8_star 67 = .ok (.aload_n 0, 1) := by decide +kernel
theorem dX8_star_68 : decode cX8_star 68 = .ok (.getfield 19, 3) := by decide +kernel
theorem dX8_star_71 : decode cX8_star 71 = .ok (.bipush 12, 2) := by decide +kernel
theorem dX8_star_73 : decode cX8_star 73 = .ok (.iload_n 1, 1) := by decide +kernel
theorem dX8_star_74 : decode cX8_star 74 = .ok (.iadd, 1) := by decide +kernel
theorem dX8_star_75 : decode cX8_star 75 = .ok (.iaload, 1) := by decide +kernel
theorem dX8_star_76 : decode cX8_star 76 = .ok (.sipush 1000, 3) := by decide +kernel
theorem dX8_star_79 : decode cX8_star 79 = .ok (.idiv, 1) := by decide +kernel
theorem dX8_star_80 : decode cX8_star 80 = .ok (.goto 16, 3) := by decide +kernel
theorem dX8_star_83 : decode cX8_star 83 = .ok (.aload_n 0, 1) := by decide +kernel
theorem dX8_star_84 : decode cX8_star 84 = .ok (.getfield 19, 3) := by decide +kernel
theorem dX8_star_87 : decode cX8_star 87 = .ok (.bipush 12, 2) := by decide +kernel
theorem dX8_star_89 : decode cX8_star 89 = .ok (.iload_n 1, 1) := by decide +kernel
theorem dX8_star_90 : decode cX8_star 90 = .ok (.iadd, 1) := by decide +kernel
theorem dX8_star_91 : decode cX8_star 91 = .ok (.iaload, 1) := by decide +kernel
theorem dX8_star_92 : decode cX8_star 92 = .ok (.sipush 1000, 3) := by decide +kernel
theorem dX8_star_95 : decode cX8_star 95 = .ok (.irem, 1) := by decide +kernel
theorem dX8_star_96 : decode cX8_star 96 = .ok (.ireturn, 1) := by decide +kernel
theorem dX8_starOf_0 : decode cX8_starOf 0 = .ok (.aload_n 0, 1) := by decide +kernel
theorem dX8_starOf_1 : decode cX8_starOf 1 = .ok (.iload_n 1, 1) := by decide +kernel
theorem dX8_starOf_2 : decode cX8_starOf 2 = .ok (.iload_n 2, 1) := by decide +kernel
theorem dX8_starOf_3 : decode cX8_starOf 3 = .ok (.invokevirtual 121, 3) := by decide +kernel
theorem dX8_starOf_6 : decode cX8_starOf 6 = .ok (.ifCond .eq 12, 3) := by decide +kernel
