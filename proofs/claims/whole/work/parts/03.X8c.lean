theorem dX8_starOf_9 : decode cX8_starOf 9 = .ok (.aload_n 0, 1) := by decide +kernel
theorem dX8_starOf_10 : decode cX8_starOf 10 = .ok (.iload_n 1, 1) := by decide +kernel
theorem dX8_starOf_11 : decode cX8_starOf 11 = .ok (.iload_n 2, 1) := by decide +kernel
theorem dX8_starOf_12 : decode cX8_starOf 12 = .ok (.invokevirtual 128, 3) := by decide +kernel
theorem dX8_starOf_15 : decode cX8_starOf 15 = .ok (.goto 4, 3) := by decide +kernel
theorem dX8_starOf_18 : decode cX8_starOf 18 = .ok (.iconst (-1), 1) := by decide +kernel
theorem dX8_starOf_19 : decode cX8_starOf 19 = .ok (.ireturn, 1) := by decide +kernel
theorem dX8_judgeStar_0 : decode cX8_judgeStar 0 = .ok (.iload_n 1, 1) := by decide +kernel
theorem dX8_judgeStar_1 : decode cX8_judgeStar 1 = .ok (.aload_n 0, 1) := by decide +kernel
theorem dX8_judgeStar_2 : decode cX8_judgeStar 2 = .ok (.getfield 13, 3) := by decide +kernel
theorem dX8_judgeStar_5 : decode cX8_judgeStar 5 = .ok (.bipush 24, 2) := by decide +kernel
theorem dX8_judgeStar_7 : decode cX8_judgeStar 7 = .ok (.iaload, 1) := by decide +kernel
theorem dX8_judgeStar_8 : decode cX8_judgeStar 8 = .ok (.if_icmp .lt 7, 3) := by decide +kernel
theorem dX8_judgeStar_11 : decode cX8_judgeStar 11 = .ok (.iconst 2, 1) := by decide +kernel
theorem dX8_judgeStar_12 : decode cX8_judgeStar 12 = .ok (.goto 33, 3) := by decide +kernel
theorem dX8_judgeStar_15 : decode cX8_judgeStar 15 = .ok (.iload_n 2, 1) := by decide +kernel
theorem dX8_judgeStar_16 : decode cX8_judgeStar 16 = .ok (.iconst 0, 1) := by decide +kernel
theorem dX8_judgeStar_17 : decode cX8_judgeStar 17 = .ok (.iconst 1, 1) := by decide +kernel
theorem dX8_judgeStar_18 : decode cX8_judgeStar 18 = .ok (.iload_n 1, 1) := by decide +kernel
theorem dX8_judgeStar_19 : decode cX8_judgeStar 19 = .ok (.invokestatic 106, 3) := by decide +kernel
theorem dX8_judgeStar_22 : decode cX8_judgeStar 22 = .ok (.if_icmp .eq 7, 3) := by decide +kernel
theorem dX8_judgeStar_25 : decode cX8_judgeStar 25 = .ok (.iconst 3, 1) := by decide +kernel
theorem dX8_judgeStar_26 : decode cX8_judgeStar 26 = .ok (.goto 19, 3) := by decide +kernel
theorem dX8_judgeStar_29 : decode cX8_judgeStar 29 = .ok (.iload_n 1, 1) := by decide +kernel
theorem dX8_judgeStar_30 : decode cX8_judgeStar 30 = .ok (.aload_n 0, 1) := by decide +kernel
theorem dX8_judgeStar_31 : decode cX8_judgeStar 31 = .ok (.getfield 19, 3) := by decide +kernel
theorem dX8_judgeStar_34 : decode cX8_judgeStar 34 = .ok (.bipush 111, 2) := by decide +kernel
theorem dX8_judgeStar_36 : decode cX8_judgeStar 36 = .ok (.iaload, 1) := by decide +kernel
theorem dX8_judgeStar_37 : decode cX8_judgeStar 37 = .ok (.if_icmp .lt 7, 3) := by decide +kernel
theorem dX8_judgeStar_40 : decode cX8_judgeStar 40 = .ok (.iconst 4, 1) := by decide +kernel
theorem dX8_judgeStar_41 : decode cX8_judgeStar 41 = .ok (.goto 4, 3) := by decide +kernel
theorem dX8_judgeStar_44 : decode cX8_judgeStar 44 = .ok (.iconst 0, 1) := by decide +kernel
theorem dX8_judgeStar_45 : decode cX8_judgeStar 45 = .ok (.ireturn, 1) := by decide +kernel
theorem dX8_judge_0 : decode cX8_judge 0 = .ok (.iload_n 1, 1) := by decide +kernel
theorem dX8_judge_1 : decode cX8_judge 1 = .ok (.i2l, 1) := by decide +kernel
theorem dX8_judge_2 : decode cX8_judge 2 = .ok (.lconst 0, 1) := by decide +kernel
theorem dX8_judge_3 : decode cX8_judge 3 = .ok (.ldc2_w 162, 3) := by decide +kernel
theorem dX8_judge_6 : decode cX8_judge 6 = .ok (.invokestatic 33, 3) := by decide +kernel
theorem dX8_judge_9 : decode cX8_judge 9 = .ok (.ifCond .eq 27, 3) := by decide +kernel
theorem dX8_judge_12 : decode cX8_judge 12 = .ok (.iload_n 2, 1) := by decide +kernel
theorem dX8_judge_13 : decode cX8_judge 13 = .ok (.i2l, 1) := by decide +kernel
theorem dX8_judge_14 : decode cX8_judge 14 = .ok (.lconst 0, 1) := by decide +kernel
theorem dX8_judge_15 : decode cX8_judge 15 = .ok (.ldc2_w 68, 3) := by decide +kernel
theorem dX8_judge_18 : decode cX8_judge 18 = .ok (.invokestatic 33, 3) := by decide +kernel
theorem dX8_judge_21 : decode cX8_judge 21 = .ok (.ifCond .eq 15, 3) := by decide +kernel
theorem dX8_judge_24 : decode cX8_judge 24 = .ok (.iload_n 3, 1) := by decide +kernel
theorem dX8_judge_25 : decode cX8_judge 25 = .ok (.i2l, 1) := by decide +kernel
theorem dX8_judge_26 : decode cX8_judge 26 = .ok (.lconst 0, 1) := by decide +kernel
theorem dX8_judge_27 : decode cX8_judge 27 = .ok (.ldc2_w 164, 3) := by decide +kernel
theorem dX8_judge_30 : decode cX8_judge 30 = .ok (.invokestatic 33, 3) := by decide +kernel
theorem dX8_judge_33 : decode cX8_judge 33 = .ok (.ifCond .ne 5, 3) := by decide +kernel
theorem dX8_judge_36 : decode cX8_judge 36 = .ok (.iconst (-1), 1) := by decide +kernel
theorem dX8_judge_37 : decode cX8_judge 37 = .ok (.ireturn, 1) := by decide +kernel
theorem dX8_judge_38 : decode cX8_judge 38 = .ok (.iload_n 1, 1) := by decide +kernel
theorem dX8_judge_39 : decode cX8_judge 39 = .ok (.ifCond .ne 10, 3) := by decide +kernel
theorem dX8_judge_42 : decode cX8_judge 42 = .ok (.aload_n 0, 1) := by decide +kernel
theorem dX8_judge_43 : decode cX8_judge 43 = .ok (.iload_n 2, 1) := by decide +kernel
theorem dX8_judge_44 : decode cX8_judge 44 = .ok (.iload_n 3, 1) := by decide +kernel
theorem dX8_judge_45 : decode cX8_judge 45 = .ok (.invokevirtual 166, 3) := by decide +kernel
theorem dX8_judge_48 : decode cX8_judge 48 = .ok (.ireturn, 1) := by decide +kernel
theorem dX8_judge_49 : decode cX8_judge 49 = .ok (.iconst 0, 1) := by decide +kernel
theorem dX8_judge_50 : decode cX8_judge 50 = .ok (.istore 4, 2) := by decide +kernel
theorem dX8_judge_52 : decode cX8_judge 52 = .ok (.iload 4, 2) := by decide +kernel
theorem dX8_judge_54 : decode cX8_judge 54 = .ok (.aload_n 0, 1) := by decide +kernel
theorem dX8_judge_55 : decode cX8_judge 55 = .ok (.getfield 13, 3) := by decide +kernel
theorem dX8_judge_58 : decode cX8_judge 58 = .ok (.bipush 23, 2) := by decide +kernel
theorem dX8_judge_60 : decode cX8_judge 60 = .ok (.iaload, 1) := by decide +kernel
theorem dX8_judge_61 : decode cX8_judge 61 = .ok (.if_icmp .ge 25, 3) := by decide +kernel
theorem dX8_judge_64 : decode cX8_judge 64 = .ok (.aload_n 0, 1) := by decide +kernel
theorem dX8_judge_65 : decode cX8_judge 65 = .ok (.getfield 13, 3) := by decide +kernel
theorem dX8_judge_68 : decode cX8_judge 68 = .ok (.iconst 4, 1) := by decide +kernel
theorem dX8_judge_69 : decode cX8_judge 69 = .ok (.bipush 6, 2) := by decide +kernel
theorem dX8_judge_71 : decode cX8_judge 71 = .ok (.iload 4, 2) := by decide +kernel
theorem dX8_judge_73 : decode cX8_judge 73 = .ok (.imul, 1) := by decide +kernel
theorem dX8_judge_74 : decode cX8_judge 74 = .ok (.iadd, 1) := by decide +kernel
theorem dX8_judge_75 : decode cX8_judge 75 = .ok (.iaload, 1) := by decide +kernel
theorem dX8_judge_76 : decode cX8_judge 76 = .ok (.iload_n 1, 1) := by decide +kernel
theorem dX8_judge_77 : decode cX8_judge 77 = .ok (.if_icmp .eq 9, 3) := by decide +kernel
theorem dX8_judge_80 : decode cX8_judge 80 = .ok (.iinc 4 1, 3) := by decide +kernel
theorem dX8_judge_83 : decode cX8_judge 83 = .ok (.goto (-31), 3) := by decide +kernel
theorem dX8_judge_86 : decode cX8_judge 86 = .ok (.iload 4, 2) := by decide +kernel
theorem dX8_judge_88 : decode cX8_judge 88 = .ok (.aload_n 0, 1) := by decide +kernel
theorem dX8_judge_89 : decode cX8_judge 89 = .ok (.getfield 13, 3) := by decide +kernel
theorem dX8_judge_92 : decode cX8_judge 92 = .ok (.bipush 23, 2) := by decide +kernel
theorem dX8_judge_94 : decode cX8_judge 94 = .ok (.iaload, 1) := by decide +kernel
theorem dX8_judge_95 : decode cX8_judge 95 = .ok (.if_icmp .ne 5, 3) := by decide +kernel
theorem dX8_judge_98 : decode cX8_judge 98 = .ok (.iconst 1, 1) := by decide +kernel
theorem dX8_judge_99 : decode cX8_judge 99 = .ok (.ireturn, 1) := by decide +kernel
theorem dX8_judge_100 : decode cX8_judge 100 = .ok (.aload_n 0, 1) := by decide +kernel
theorem dX8_judge_101 : decode cX8_judge 101 = .ok (.iload 4, 2) := by decide +kernel
theorem dX8_judge_103 : decode cX8_judge 103 = .ok (.iload_n 2, 1) := by decide +kernel
theorem dX8_judge_104 : decode cX8_judge 104 = .ok (.invokevirtual 121, 3) := by decide +kernel
theorem dX8_judge_107 : decode cX8_judge 107 = .ok (.ifCond .ne 7, 3) := by decide +kernel
theorem dX8_judge_110 : decode cX8_judge 110 = .ok (.iconst 2, 1) := by decide +kernel
theorem dX8_judge_111 : decode cX8_judge 111 = .ok (.goto 49, 3) := by decide +kernel
theorem dX8_judge_114 : decode cX8_judge 114 = .ok (.iload_n 3, 1) := by decide +kernel
theorem dX8_judge_115 : decode cX8_judge 115 = .ok (.aload_n 0, 1) := by decide +kernel
theorem dX8_judge_116 : decode cX8_judge 116 = .ok (.iload 4, 2) := by decide +kernel
theorem dX8_judge_118 : decode cX8_judge 118 = .ok (.iload_n 2, 1) := by decide +kernel
theorem dX8_judge_119 : decode cX8_judge 119 = .ok (.invokevirtual 110, 3) := by decide +kernel
theorem dX8_judge_122 : decode cX8_judge 122 = .ok (.if_icmp .eq 7, 3) := by decide +kernel
theorem dX8_judge_125 : decode cX8_judge 125 = .ok (.iconst 3, 1) := by decide +kernel
theorem dX8_judge_126 : decode cX8_judge 126 = .ok (.goto 34, 3) := by decide +kernel
theorem dX8_judge_129 : decode cX8_judge 129 = .ok (.aload_n 0, 1) := by decide +kernel
theorem dX8_judge_130 : decode cX8_judge 130 = .ok (.iload 4, 2) := by decide +kernel
theorem dX8_judge_132 : decode cX8_judge 132 = .ok (.iload_n 2, 1) := by decide +kernel
theorem dX8_judge_133 : decode cX8_judge 133 = .ok (.invokevirtual 125, 3) := by decide +kernel
theorem dX8_judge_136 : decode cX8_judge 136 = .ok (.ifCond .ne 7, 3) := by decide +kernel
theorem dX8_judge_139 : decode cX8_judge 139 = .ok (.iconst 4, 1) := by decide +kernel
theorem dX8_judge_140 : decode cX8_judge 140 = .ok (.goto 20, 3) := by decide +kernel
theorem dX8_judge_143 : decode cX8_judge 143 = .ok (.aload_n 0, 1) := by decide +kernel
theorem dX8_judge_144 : decode cX8_judge 144 = .ok (.iload 4, 2) := by decide +kernel
theorem dX8_judge_146 : decode cX8_judge 146 = .ok (.iload_n 2, 1) := by decide +kernel
theorem dX8_judge_147 : decode cX8_judge 147 = .ok (.invokevirtual 128, 3) := by decide +kernel
theorem dX8_judge_150 : decode cX8_judge 150 = .ok (.bipush (-4), 2) := by decide +kernel
theorem dX8_judge_152 : decode cX8_judge 152 = .ok (.if_icmp .eq 7, 3) := by decide +kernel
theorem dX8_judge_155 : decode cX8_judge 155 = .ok (.iconst 5, 1) := by decide +kernel
theorem dX8_judge_156 : decode cX8_judge 156 = .ok (.goto 4, 3) := by decide +kernel
theorem dX8_judge_159 : decode cX8_judge 159 = .ok (.iconst 0, 1) := by decide +kernel
theorem dX8_judge_160 : decode cX8_judge 160 = .ok (.ireturn, 1) := by decide +kernel
theorem dX8_pack_0 : decode cX8_pack 0 = .ok (.aload_n 0, 1) := by decide +kernel
theorem dX8_pack_1 : decode cX8_pack 1 = .ok (.iload_n 1, 1) := by decide +kernel
theorem dX8_pack_2 : decode cX8_pack 2 = .ok (.invokevirtual 84, 3) := by decide +kernel
theorem dX8_pack_5 : decode cX8_pack 5 = .ok (.ifCond .eq 32, 3) := by decide +kernel
theorem dX8_pack_8 : decode cX8_pack 8 = .ok (.iload_n 2, 1) := by decide +kernel
theorem dX8_pack_9 : decode cX8_pack 9 = .ok (.i2l, 1) := by decide +kernel
theorem dX8_pack_10 : decode cX8_pack 10 = .ok (.lconst 0, 1) := by decide +kernel
theorem dX8_pack_11 : decode cX8_pack 11 = .ok (.aload_n 0, 1) := by decide +kernel
theorem dX8_pack_12 : decode cX8_pack 12 = .ok (.iload_n 1, 1) := by decide +kernel
theorem dX8_pack_13 : decode cX8_pack 13 = .ok (.invokevirtual 138, 3) := by decide +kernel
theorem dX8_pack_16 : decode cX8_pack 16 = .ok (.iconst 1, 1) := by decide +kernel
theorem dX8_pack_17 : decode cX8_pack 17 = .ok (.isub, 1) := by decide +kernel
theorem dX8_pack_18 : decode cX8_pack 18 = .ok (.i2l, 1) := by decide +kernel
theorem dX8_pack_19 : decode cX8_pack 19 = .ok (.invokestatic 33, 3) := by decide +kernel
theorem dX8_pack_22 : decode cX8_pack 22 = .ok (.ifCond .eq 15, 3) := by decide +kernel
theorem dX8_pack_25 : decode cX8_pack 25 = .ok (.iload_n 3, 1) := by decide +kernel
theorem dX8_pack_26 : decode cX8_pack 26 = .ok (.i2l, 1) := by decide +kernel
theorem dX8_pack_27 : decode cX8_pack 27 = .ok (.lconst 0, 1) := by decide +kernel
theorem dX8_pack_28 : decode cX8_pack 28 = .ok (.ldc2_w 169, 3) := by decide +kernel
theorem dX8_pack_31 : decode cX8_pack 31 = .ok (.invokestatic 33, 3) := by decide +kernel
theorem dX8_pack_34 : decode cX8_pack 34 = .ok (.ifCond .ne 5, 3) := by decide +kernel
theorem dX8_pack_37 : decode cX8_pack 37 = .ok (.iconst (-1), 1) := by decide +kernel
theorem dX8_pack_38 : decode cX8_pack 38 = .ok (.ireturn, 1) := by decide +kernel
theorem dX8_pack_39 : decode cX8_pack 39 = .ok (.aload_n 0, 1) := by decide +kernel
theorem dX8_pack_40 : decode cX8_pack 40 = .ok (.iload_n 1, 1) := by decide +kernel
theorem dX8_pack_41 : decode cX8_pack 41 = .ok (.iload_n 2, 1) := by decide +kernel
theorem dX8_pack_42 : decode cX8_pack 42 = .ok (.invokevirtual 141, 3) := by decide +kernel
theorem dX8_pack_45 : decode cX8_pack 45 = .ok (.ifCond .ne 6, 3) := by decide +kernel
theorem dX8_pack_48 : decode cX8_pack 48 = .ok (.bipush (-2), 2) := by decide +kernel
theorem dX8_pack_50 : decode cX8_pack 50 = .ok (.ireturn, 1) := by decide +kernel
theorem dX8_pack_51 : decode cX8_pack 51 = .ok (.bipush 10, 2) := by decide +kernel
theorem dX8_pack_53 : decode cX8_pack 53 = .ok (.iload_n 2, 1) := by decide +kernel
theorem dX8_pack_54 : decode cX8_pack 54 = .ok (.imul, 1) := by decide +kernel
theorem dX8_pack_55 : decode cX8_pack 55 = .ok (.iload_n 3, 1) := by decide +kernel
theorem dX8_pack_56 : decode cX8_pack 56 = .ok (.iadd, 1) := by decide +kernel
theorem dX8_pack_57 : decode cX8_pack 57 = .ok (.istore 4, 2) := by decide +kernel
theorem dX8_pack_59 : decode cX8_pack 59 = .ok (.iload 4, 2) := by decide +kernel
theorem dX8_pack_61 : decode cX8_pack 61 = .ok (.aload_n 0, 1) := by decide +kernel
theorem dX8_pack_62 : decode cX8_pack 62 = .ok (.getfield 13, 3) := by decide +kernel
theorem dX8_pack_65 : decode cX8_pack 65 = .ok (.iload_n 1, 1) := by decide +kernel
theorem dX8_pack_66 : decode cX8_pack 66 = .ok (.invokestatic 64, 3) := by decide +kernel
theorem dX8_pack_69 : decode cX8_pack 69 = .ok (.if_icmp .lt 6, 3) := by decide +kernel
theorem dX8_pack_72 : decode cX8_pack 72 = .ok (.bipush (-4), 2) := by decide +kernel
theorem dX8_pack_74 : decode cX8_pack 74 = .ok (.ireturn, 1) := by decide +kernel
theorem dX8_pack_75 : decode cX8_pack 75 = .ok (.aload_n 0, 1) := by decide +kernel
theorem dX8_pack_76 : decode cX8_pack 76 = .ok (.iload_n 1, 1) := by decide +kernel
theorem dX8_pack_77 : decode cX8_pack 77 = .ok (.iload 4, 2) := by decide +kernel
theorem dX8_pack_79 : decode cX8_pack 79 = .ok (.invokevirtual 128, 3) := by decide +kernel
theorem dX8_pack_82 : decode cX8_pack 82 = .ok (.istore 5, 2) := by decide +kernel
theorem dX8_pack_84 : decode cX8_pack 84 = .ok (.iload 5, 2) := by decide +kernel
theorem dX8_pack_86 : decode cX8_pack 86 = .ok (.bipush (-4), 2) := by decide +kernel
theorem dX8_pack_88 : decode cX8_pack 88 = .ok (.if_icmp .ne 8, 3) := by decide +kernel
theorem dX8_pack_91 : decode cX8_pack 91 = .ok (.iload 4, 2) := by decide +kernel
theorem dX8_pack_93 : decode cX8_pack 93 = .ok (.goto 9, 3) := by decide +kernel
theorem dX8_pack_96 : decode cX8_pack 96 = .ok (.sipush 1000, 3) := by decide +kernel
theorem dX8_pack_99 : decode cX8_pack 99 = .ok (.iload 5, 2) := by decide +kernel
theorem dX8_pack_101 : decode cX8_pack 101 = .ok (.iadd, 1) := by decide +kernel
theorem dX8_pack_102 : decode cX8_pack 102 = .ok (.ireturn, 1) := by decide +kernel
theorem dX8_count_0 : decode cX8_count 0 = .ok (.iconst 0, 1) := by decide +kernel
theorem dX8_count_1 : decode cX8_count 1 = .ok (.istore_n 2, 1) := by decide +kernel
theorem dX8_count_2 : decode cX8_count 2 = .ok (.iconst 0, 1) := by decide +kernel
theorem dX8_count_3 : decode cX8_count 3 = .ok (.istore_n 3, 1) := by decide +kernel
theorem dX8_count_4 : decode cX8_count 4 = .ok (.iconst 0, 1) := by decide +kernel
theorem dX8_count_5 : decode cX8_count 5 = .ok (.istore 4, 2) := by decide +kernel
theorem dX8_count_7 : decode cX8_count 7 = .ok (.iconst 0, 1) := by decide +kernel
theorem dX8_count_8 : decode cX8_count 8 = .ok (.istore 5, 2) := by decide +kernel
theorem dX8_count_10 : decode cX8_count 10 = .ok (.iload 5, 2) := by decide +kernel
theorem dX8_count_12 : decode cX8_count 12 = .ok (.aload_n 0, 1) := by decide +kernel
theorem dX8_count_13 : decode cX8_count 13 = .ok (.getfield 13, 3) := by decide +kernel
theorem dX8_count_16 : decode cX8_count 16 = .ok (.bipush 23, 2) := by decide +kernel
theorem dX8_count_18 : decode cX8_count 18 = .ok (.iaload, 1) := by decide +kernel
theorem dX8_count_19 : decode cX8_count 19 = .ok (.if_icmp .ge 39, 3) := by decide +kernel
theorem dX8_count_22 : decode cX8_count 22 = .ok (.iload_n 2, 1) := by decide +kernel
theorem dX8_count_23 : decode cX8_count 23 = .ok (.aload_n 0, 1) := by decide +kernel
theorem dX8_count_24 : decode cX8_count 24 = .ok (.iload 5, 2) := by decide +kernel
theorem dX8_count_26 : decode cX8_count 26 = .ok (.invokevirtual 146, 3) := by decide +kernel
theorem dX8_count_29 : decode cX8_count 29 = .ok (.iadd, 1) := by decide +kernel
theorem dX8_count_30 : decode cX8_count 30 = .ok (.istore_n 2, 1) := by decide +kernel
theorem dX8_count_31 : decode cX8_count 31 = .ok (.iload 4, 2) := by decide +kernel
theorem dX8_count_33 : decode cX8_count 33 = .ok (.iload_n 1, 1) := by decide +kernel
theorem dX8_count_34 : decode cX8_count 34 = .ok (.bipush 7, 2) := by decide +kernel
theorem dX8_count_36 : decode cX8_count 36 = .ok (.if_icmp .ne 12, 3) := by decide +kernel
theorem dX8_count_39 : decode cX8_count 39 = .ok (.aload_n 0, 1) := by decide +kernel
theorem dX8_count_40 : decode cX8_count 40 = .ok (.iload 5, 2) := by decide +kernel
theorem dX8_count_42 : decode cX8_count 42 = .ok (.invokevirtual 155, 3) := by decide +kernel
theorem dX8_count_45 : decode cX8_count 45 = .ok (.goto 4, 3) := by decide +kernel
theorem dX8_count_48 : decode cX8_count 48 = .ok (.iconst 0, 1) := by decide +kernel
theorem dX8_count_49 : decode cX8_count 49 = .ok (.iadd, 1) := by decide +kernel
theorem dX8_count_50 : decode cX8_count 50 = .ok (.istore 4, 2) := by decide +kernel
theorem dX8_count_52 : decode cX8_count 52 = .ok (.iinc 5 1, 3) := by decide +kernel
theorem dX8_count_55 : decode cX8_count 55 = .ok (.goto (-45), 3) := by decide +kernel
theorem dX8_count_58 : decode cX8_count 58 = .ok (.iconst 0, 1) := by decide +kernel
theorem dX8_count_59 : decode cX8_count 59 = .ok (.istore 5, 2) := by decide +kernel
theorem dX8_count_61 : decode cX8_count 61 = .ok (.iload 5, 2) := by decide +kernel
theorem dX8_count_63 : decode cX8_count 63 = .ok (.bipush 12, 2) := by decide +kernel
theorem dX8_count_65 : decode cX8_count 65 = .ok (.if_icmp .ge 19, 3) := by decide +kernel
theorem dX8_count_68 : decode cX8_count 68 = .ok (.iload_n 3, 1) := by decide +kernel
theorem dX8_count_69 : decode cX8_count 69 = .ok (.aload_n 0, 1) := by decide +kernel
theorem dX8_count_70 : decode cX8_count 70 = .ok (.getfield 19, 3) := by decide +kernel
theorem dX8_count_73 : decode cX8_count 73 = .ok (.iload 5, 2) := by decide +kernel
theorem dX8_count_75 : decode cX8_count 75 = .ok (.iaload, 1) := by decide +kernel
theorem dX8_count_76 : decode cX8_count 76 = .ok (.iadd, 1) := by decide +kernel
theorem dX8_count_77 : decode cX8_count 77 = .ok (.istore_n 3, 1) := by decide +kernel
theorem dX8_count_78 : decode cX8_count 78 = .ok (.iinc 5 1, 3) := by decide +kernel
theorem dX8_count_81 : decode cX8_count 81 = .ok (.goto (-20), 3) := by decide +kernel
theorem dX8_count_84 : decode cX8_count 84 = .ok (.iload_n 1, 1) := by decide +kernel
theorem dX8_count_85 : decode cX8_count 85 = .ok (.tableswitch 104 0 9 #[55, 63, 71, 79, 87, 79, 89, 91, 94, 99], 55) := by decide +kernel
theorem dX8_count_140 : decode cX8_count 140 = .ok (.aload_n 0, 1) := by decide +kernel
theorem dX8_count_141 : decode cX8_count 141 = .ok (.getfield 13, 3) := by decide +kernel
theorem dX8_count_144 : decode cX8_count 144 = .ok (.bipush 22, 2) := by decide +kernel
theorem dX8_count_146 : decode cX8_count 146 = .ok (.iaload, 1) := by decide +kernel
theorem dX8_count_147 : decode cX8_count 147 = .ok (.ireturn, 1) := by decide +kernel
theorem dX8_count_148 : decode cX8_count 148 = .ok (.aload_n 0, 1) := by decide +kernel
theorem dX8_count_149 : decode cX8_count 149 = .ok (.getfield 13, 3) := by decide +kernel
theorem dX8_count_152 : decode cX8_count 152 = .ok (.bipush 23, 2) := by decide +kernel
theorem dX8_count_154 : decode cX8_count 154 = .ok (.iaload, 1) := by decide +kernel
theorem dX8_count_155 : decode cX8_count 155 = .ok (.ireturn, 1) := by decide +kernel
theorem dX8_count_156 : decode cX8_count 156 = .ok (.aload_n 0, 1) := by decide +kernel
theorem dX8_count_157 : decode cX8_count 157 = .ok (.getfield 13, 3) := by decide +kernel
theorem dX8_count_160 : decode cX8_count 160 = .ok (.bipush 24, 2) := by decide +kernel
theorem dX8_count_162 : decode cX8_count 162 = .ok (.iaload, 1) := by decide +kernel
theorem dX8_count_163 : decode cX8_count 163 = .ok (.ireturn, 1) := by decide +kernel
theorem dX8_count_164 : decode cX8_count 164 = .ok (.aload_n 0, 1) := by decide +kernel
theorem dX8_count_165 : decode cX8_count 165 = .ok (.getfield 19, 3) := by decide +kernel
theorem dX8_count_168 : decode cX8_count 168 = .ok (.bipush 111, 2) := by decide +kernel
theorem dX8_count_170 : decode cX8_count 170 = .ok (.iaload, 1) := by decide +kernel
theorem dX8_count_171 : decode cX8_count 171 = .ok (.ireturn, 1) := by decide +kernel
theorem dX8_count_172 : decode cX8_count 172 = .ok (.iload_n 2, 1) := by decide +kernel
theorem dX8_count_173 : decode cX8_count 173 = .ok (.ireturn, 1) := by decide +kernel
theorem dX8_count_174 : decode cX8_count 174 = .ok (.iload_n 3, 1) := by decide +kernel
theorem dX8_count_175 : decode cX8_count 175 = .ok (.ireturn, 1) := by decide +kernel
theorem dX8_count_176 : decode cX8_count 176 = .ok (.iload 4, 2) := by decide +kernel
theorem dX8_count_178 : decode cX8_count 178 = .ok (.ireturn, 1) := by decide +kernel
theorem dX8_count_179 : decode cX8_count 179 = .ok (.aload_n 0, 1) := by decide +kernel
theorem dX8_count_180 : decode cX8_count 180 = .ok (.getfield 81, 3) := by decide +kernel
theorem dX8_count_183 : decode cX8_count 183 = .ok (.ireturn, 1) := by decide +kernel
theorem dX8_count_184 : decode cX8_count 184 = .ok (.aload_n 0, 1) := by decide +kernel
theorem dX8_count_185 : decode cX8_count 185 = .ok (.getfield 37, 3) := by decide +kernel
theorem dX8_count_188 : decode cX8_count 188 = .ok (.ireturn, 1) := by decide +kernel
theorem dX8_count_189 : decode cX8_count 189 = .ok (.iconst (-1), 1) := by decide +kernel
theorem dX8_count_190 : decode cX8_count 190 = .ok (.ireturn, 1) := by decide +kernel
