theorem dX1_ofNumber_0 : decode cX1_ofNumber 0 = .ok (.iload_n 0, 1) := by decide +kernel
theorem dX1_ofNumber_1 : decode cX1_ofNumber 1 = .ok (.iload_n 1, 1) := by decide +kernel
theorem dX1_ofNumber_2 : decode cX1_ofNumber 2 = .ok (.iload_n 2, 1) := by decide +kernel
theorem dX1_ofNumber_3 : decode cX1_ofNumber 3 = .ok (.bipush 100, 2) := by decide +kernel
theorem dX1_ofNumber_5 : decode cX1_ofNumber 5 = .ok (.idiv, 1) := by decide +kernel
theorem dX1_ofNumber_6 : decode cX1_ofNumber 6 = .ok (.iload_n 2, 1) := by decide +kernel
theorem dX1_ofNumber_7 : decode cX1_ofNumber 7 = .ok (.bipush 10, 2) := by decide +kernel
theorem dX1_ofNumber_9 : decode cX1_ofNumber 9 = .ok (.idiv, 1) := by decide +kernel
theorem dX1_ofNumber_10 : decode cX1_ofNumber 10 = .ok (.bipush 10, 2) := by decide +kernel
theorem dX1_ofNumber_12 : decode cX1_ofNumber 12 = .ok (.irem, 1) := by decide +kernel
theorem dX1_ofNumber_13 : decode cX1_ofNumber 13 = .ok (.iload_n 2, 1) := by decide +kernel
theorem dX1_ofNumber_14 : decode cX1_ofNumber 14 = .ok (.bipush 10, 2) := by decide +kernel
theorem dX1_ofNumber_16 : decode cX1_ofNumber 16 = .ok (.irem, 1) := by decide +kernel
theorem dX1_ofNumber_17 : decode cX1_ofNumber 17 = .ok (.invokestatic 7, 3) := by decide +kernel
theorem dX1_ofNumber_20 : decode cX1_ofNumber 20 = .ok (.ireturn, 1) := by decide +kernel
theorem dX1_ofStar_0 : decode cX1_ofStar 0 = .ok (.iconst 1, 1) := by decide +kernel
theorem dX1_ofStar_1 : decode cX1_ofStar 1 = .ok (.iconst 0, 1) := by decide +kernel
theorem dX1_ofStar_2 : decode cX1_ofStar 2 = .ok (.iload_n 0, 1) := by decide +kernel
theorem dX1_ofStar_3 : decode cX1_ofStar 3 = .ok (.invokestatic 13, 3) := by decide +kernel
theorem dX1_ofStar_6 : decode cX1_ofStar 6 = .ok (.ireturn, 1) := by decide +kernel
theorem dX1_missedFigures_0 : decode cX1_missedFigures 0 = .ok (.iload_n 2, 1) := by decide +kernel
theorem dX1_missedFigures_1 : decode cX1_missedFigures 1 = .ok (.bipush 100, 2) := by decide +kernel
theorem dX1_missedFigures_3 : decode cX1_missedFigures 3 = .ok (.idiv, 1) := by decide +kernel
theorem dX1_missedFigures_4 : decode cX1_missedFigures 4 = .ok (.istore_n 3, 1) := by decide +kernel
theorem dX1_missedFigures_5 : decode cX1_missedFigures 5 = .ok (.iload_n 2, 1) := by decide +kernel
theorem dX1_missedFigures_6 : decode cX1_missedFigures 6 = .ok (.bipush 10, 2) := by decide +kernel
theorem dX1_missedFigures_8 : decode cX1_missedFigures 8 = .ok (.idiv, 1) := by decide +kernel
theorem dX1_missedFigures_9 : decode cX1_missedFigures 9 = .ok (.bipush 10, 2) := by decide +kernel
theorem dX1_missedFigures_11 : decode cX1_missedFigures 11 = .ok (.irem, 1) := by decide +kernel
theorem dX1_missedFigures_12 : decode cX1_missedFigures 12 = .ok (.istore 4, 2) := by decide +kernel
theorem dX1_missedFigures_14 : decode cX1_missedFigures 14 = .ok (.iload_n 2, 1) := by decide +kernel
theorem dX1_missedFigures_15 : decode cX1_missedFigures 15 = .ok (.bipush 10, 2) := by decide +kernel
theorem dX1_missedFigures_17 : decode cX1_missedFigures 17 = .ok (.irem, 1) := by decide +kernel
theorem dX1_missedFigures_18 : decode cX1_missedFigures 18 = .ok (.istore 5, 2) := by decide +kernel
theorem dX1_missedFigures_20 : decode cX1_missedFigures 20 = .ok (.iload_n 0, 1) := by decide +kernel
theorem dX1_missedFigures_21 : decode cX1_missedFigures 21 = .ok (.iload_n 1, 1) := by decide +kernel
theorem dX1_missedFigures_22 : decode cX1_missedFigures 22 = .ok (.iload_n 3, 1) := by decide +kernel
theorem dX1_missedFigures_23 : decode cX1_missedFigures 23 = .ok (.iload 4, 2) := by decide +kernel
theorem dX1_missedFigures_25 : decode cX1_missedFigures 25 = .ok (.iload 5, 2) := by decide +kernel
theorem dX1_missedFigures_27 : decode cX1_missedFigures 27 = .ok (.invokestatic 7, 3) := by decide +kernel
theorem dX1_missedFigures_30 : decode cX1_missedFigures 30 = .ok (.istore 6, 2) := by decide +kernel
theorem dX1_missedFigures_32 : decode cX1_missedFigures 32 = .ok (.iconst 0, 1) := by decide +kernel
theorem dX1_missedFigures_33 : decode cX1_missedFigures 33 = .ok (.istore 7, 2) := by decide +kernel
theorem dX1_missedFigures_35 : decode cX1_missedFigures 35 = .ok (.iconst 0, 1) := by decide +kernel
theorem dX1_missedFigures_36 : decode cX1_missedFigures 36 = .ok (.istore 8, 2) := by decide +kernel
theorem dX1_missedFigures_38 : decode cX1_missedFigures 38 = .ok (.iload 8, 2) := by decide +kernel
theorem dX1_missedFigures_40 : decode cX1_missedFigures 40 = .ok (.bipush 9, 2) := by decide +kernel
theorem dX1_missedFigures_42 : decode cX1_missedFigures 42 = .ok (.if_icmp .gt 84, 3) := by decide +kernel
theorem dX1_missedFigures_45 : decode cX1_missedFigures 45 = .ok (.iload 8, 2) := by decide +kernel
theorem dX1_missedFigures_47 : decode cX1_missedFigures 47 = .ok (.iload_n 3, 1) := by decide +kernel
theorem dX1_missedFigures_48 : decode cX1_missedFigures 48 = .ok (.if_icmp .eq 22, 3) := by decide +kernel
theorem dX1_missedFigures_51 : decode cX1_missedFigures 51 = .ok (.iload_n 0, 1) := by decide +kernel
theorem dX1_missedFigures_52 : decode cX1_missedFigures 52 = .ok (.iload_n 1, 1) := by decide +kernel
theorem dX1_missedFigures_53 : decode cX1_missedFigures 53 = .ok (.iload 8, 2) := by decide +kernel
theorem dX1_missedFigures_55 : decode cX1_missedFigures 55 = .ok (.iload 4, 2) := by decide +kernel
theorem dX1_missedFigures_57 : decode cX1_missedFigures 57 = .ok (.iload 5, 2) := by decide +kernel
theorem dX1_missedFigures_59 : decode cX1_missedFigures 59 = .ok (.invokestatic 7, 3) := by decide +kernel
theorem dX1_missedFigures_62 : decode cX1_missedFigures 62 = .ok (.iload 6, 2) := by decide +kernel
theorem dX1_missedFigures_64 : decode cX1_missedFigures 64 = .ok (.if_icmp .ne 6, 3) := by decide +kernel
theorem dX1_missedFigures_67 : decode cX1_missedFigures 67 = .ok (.iinc 7 1, 3) := by decide +kernel
theorem dX1_missedFigures_70 : decode cX1_missedFigures 70 = .ok (.iload 8, 2) := by decide +kernel
theorem dX1_missedFigures_72 : decode cX1_missedFigures 72 = .ok (.iload 4, 2) := by decide +kernel
theorem dX1_missedFigures_74 : decode cX1_missedFigures 74 = .ok (.if_icmp .eq 21, 3) := by decide +kernel
theorem dX1_missedFigures_77 : decode cX1_missedFigures 77 = .ok (.iload_n 0, 1) := by decide +kernel
theorem dX1_missedFigures_78 : decode cX1_missedFigures 78 = .ok (.iload_n 1, 1) := by decide +kernel
theorem dX1_missedFigures_79 : decode cX1_missedFigures 79 = .ok (.iload_n 3, 1) := by decide +kernel
theorem dX1_missedFigures_80 : decode cX1_missedFigures 80 = .ok (.iload 8, 2) := by decide +kernel
theorem dX1_missedFigures_82 : decode cX1_missedFigures 82 = .ok (.iload 5, 2) := by decide +kernel
theorem dX1_missedFigures_84 : decode cX1_missedFigures 84 = .ok (.invokestatic 7, 3) := by decide +kernel
theorem dX1_missedFigures_87 : decode cX1_missedFigures 87 = .ok (.iload 6, 2) := by decide +kernel
theorem dX1_missedFigures_89 : decode cX1_missedFigures 89 = .ok (.if_icmp .ne 6, 3) := by decide +kernel
theorem dX1_missedFigures_92 : decode cX1_missedFigures 92 = .ok (.iinc 7 1, 3) := by decide +kernel
theorem dX1_missedFigures_95 : decode cX1_missedFigures 95 = .ok (.iload 8, 2) := by decide +kernel
theorem dX1_missedFigures_97 : decode cX1_missedFigures 97 = .ok (.iload 5, 2) := by decide +kernel
theorem dX1_missedFigures_99 : decode cX1_missedFigures 99 = .ok (.if_icmp .eq 21, 3) := by decide +kernel
theorem dX1_missedFigures_102 : decode cX1_missedFigures 102 = .ok (.iload_n 0, 1) := by decide +kernel
theorem dX1_missedFigures_103 : decode cX1_missedFigures 103 = .ok (.iload_n 1, 1) := by decide +kernel
theorem dX1_missedFigures_104 : decode cX1_missedFigures 104 = .ok (.iload_n 3, 1) := by decide +kernel
theorem dX1_missedFigures_105 : decode cX1_missedFigures 105 = .ok (.iload 4, 2) := by decide +kernel
theorem dX1_missedFigures_107 : decode cX1_missedFigures 107 = .ok (.iload 8, 2) := by decide +kernel
theorem dX1_missedFigures_109 : decode cX1_missedFigures 109 = .ok (.invokestatic 7, 3) := by decide +kernel
theorem dX1_missedFigures_112 : decode cX1_missedFigures 112 = .ok (.iload 6, 2) := by decide +kernel
theorem dX1_missedFigures_114 : decode cX1_missedFigures 114 = .ok (.if_icmp .ne 6, 3) := by decide +kernel
theorem dX1_missedFigures_117 : decode cX1_missedFigures 117 = .ok (.iinc 7 1, 3) := by decide +kernel
theorem dX1_missedFigures_120 : decode cX1_missedFigures 120 = .ok (.iinc 8 1, 3) := by decide +kernel
theorem dX1_missedFigures_123 : decode cX1_missedFigures 123 = .ok (.goto (-85), 3) := by decide +kernel
theorem dX1_missedFigures_126 : decode cX1_missedFigures 126 = .ok (.iload 7, 2) := by decide +kernel
theorem dX1_missedFigures_128 : decode cX1_missedFigures 128 = .ok (.ireturn, 1) := by decide +kernel
theorem dX1_missedSwaps_0 : decode cX1_missedSwaps 0 = .ok (.iload_n 2, 1) := by decide +kernel
theorem dX1_missedSwaps_1 : decode cX1_missedSwaps 1 = .ok (.bipush 100, 2) := by decide +kernel
theorem dX1_missedSwaps_3 : decode cX1_missedSwaps 3 = .ok (.idiv, 1) := by decide +kernel
theorem dX1_missedSwaps_4 : decode cX1_missedSwaps 4 = .ok (.istore_n 3, 1) := by decide +kernel
theorem dX1_missedSwaps_5 : decode cX1_missedSwaps 5 = .ok (.iload_n 2, 1) := by decide +kernel
theorem dX1_missedSwaps_6 : decode cX1_missedSwaps 6 = .ok (.bipush 10, 2) := by decide +kernel
theorem dX1_missedSwaps_8 : decode cX1_missedSwaps 8 = .ok (.idiv, 1) := by decide +kernel
theorem dX1_missedSwaps_9 : decode cX1_missedSwaps 9 = .ok (.bipush 10, 2) := by decide +kernel
theorem dX1_missedSwaps_11 : decode cX1_missedSwaps 11 = .ok (.irem, 1) := by decide +kernel
theorem dX1_missedSwaps_12 : decode cX1_missedSwaps 12 = .ok (.istore 4, 2) := by decide +kernel
theorem dX1_missedSwaps_14 : decode cX1_missedSwaps 14 = .ok (.iload_n 2, 1) := by decide +kernel
theorem dX1_missedSwaps_15 : decode cX1_missedSwaps 15 = .ok (.bipush 10, 2) := by decide +kernel
theorem dX1_missedSwaps_17 : decode cX1_missedSwaps 17 = .ok (.irem, 1) := by decide +kernel
theorem dX1_missedSwaps_18 : decode cX1_missedSwaps 18 = .ok (.istore 5, 2) := by decide +kernel
theorem dX1_missedSwaps_20 : decode cX1_missedSwaps 20 = .ok (.iload_n 0, 1) := by decide +kernel
theorem dX1_missedSwaps_21 : decode cX1_missedSwaps 21 = .ok (.iload_n 1, 1) := by decide +kernel
theorem dX1_missedSwaps_22 : decode cX1_missedSwaps 22 = .ok (.iload_n 3, 1) := by decide +kernel
theorem dX1_missedSwaps_23 : decode cX1_missedSwaps 23 = .ok (.iload 4, 2) := by decide +kernel
theorem dX1_missedSwaps_25 : decode cX1_missedSwaps 25 = .ok (.iload 5, 2) := by decide +kernel
theorem dX1_missedSwaps_27 : decode cX1_missedSwaps 27 = .ok (.invokestatic 7, 3) := by decide +kernel
theorem dX1_missedSwaps_30 : decode cX1_missedSwaps 30 = .ok (.istore 6, 2) := by decide +kernel
theorem dX1_missedSwaps_32 : decode cX1_missedSwaps 32 = .ok (.iconst 0, 1) := by decide +kernel
theorem dX1_missedSwaps_33 : decode cX1_missedSwaps 33 = .ok (.istore 7, 2) := by decide +kernel
theorem dX1_missedSwaps_35 : decode cX1_missedSwaps 35 = .ok (.iload_n 3, 1) := by decide +kernel
theorem dX1_missedSwaps_36 : decode cX1_missedSwaps 36 = .ok (.iload 4, 2) := by decide +kernel
theorem dX1_missedSwaps_38 : decode cX1_missedSwaps 38 = .ok (.if_icmp .eq 21, 3) := by decide +kernel
theorem dX1_missedSwaps_41 : decode cX1_missedSwaps 41 = .ok (.iload_n 0, 1) := by decide +kernel
theorem dX1_missedSwaps_42 : decode cX1_missedSwaps 42 = .ok (.iload_n 1, 1) := by decide +kernel
theorem dX1_missedSwaps_43 : decode cX1_missedSwaps 43 = .ok (.iload 4, 2) := by decide +kernel
theorem dX1_missedSwaps_45 : decode cX1_missedSwaps 45 = .ok (.iload_n 3, 1) := by decide +kernel
theorem dX1_missedSwaps_46 : decode cX1_missedSwaps 46 = .ok (.iload 5, 2) := by decide +kernel
theorem dX1_missedSwaps_48 : decode cX1_missedSwaps 48 = .ok (.invokestatic 7, 3) := by decide +kernel
theorem dX1_missedSwaps_51 : decode cX1_missedSwaps 51 = .ok (.iload 6, 2) := by decide +kernel
theorem dX1_missedSwaps_53 : decode cX1_missedSwaps 53 = .ok (.if_icmp .ne 6, 3) := by decide +kernel
theorem dX1_missedSwaps_56 : decode cX1_missedSwaps 56 = .ok (.iinc 7 1, 3) := by decide +kernel
theorem dX1_missedSwaps_59 : decode cX1_missedSwaps 59 = .ok (.iload 4, 2) := by decide +kernel
theorem dX1_missedSwaps_61 : decode cX1_missedSwaps 61 = .ok (.iload 5, 2) := by decide +kernel
theorem dX1_missedSwaps_63 : decode cX1_missedSwaps 63 = .ok (.if_icmp .eq 21, 3) := by decide +kernel
theorem dX1_missedSwaps_66 : decode cX1_missedSwaps 66 = .ok (.iload_n 0, 1) := by decide +kernel
theorem dX1_missedSwaps_67 : decode cX1_missedSwaps 67 = .ok (.iload_n 1, 1) := by decide +kernel
theorem dX1_missedSwaps_68 : decode cX1_missedSwaps 68 = .ok (.iload_n 3, 1) := by decide +kernel
theorem dX1_missedSwaps_69 : decode cX1_missedSwaps 69 = .ok (.iload 5, 2) := by decide +kernel
theorem dX1_missedSwaps_71 : decode cX1_missedSwaps 71 = .ok (.iload 4, 2) := by decide +kernel
theorem dX1_missedSwaps_73 : decode cX1_missedSwaps 73 = .ok (.invokestatic 7, 3) := by decide +kernel
theorem dX1_missedSwaps_76 : decode cX1_missedSwaps 76 = .ok (.iload 6, 2) := by decide +kernel
theorem dX1_missedSwaps_78 : decode cX1_missedSwaps 78 = .ok (.if_icmp .ne 6, 3) := by decide +kernel
theorem dX1_missedSwaps_81 : decode cX1_missedSwaps 81 = .ok (.iinc 7 1, 3) := by decide +kernel
theorem dX1_missedSwaps_84 : decode cX1_missedSwaps 84 = .ok (.iload 7, 2) := by decide +kernel
theorem dX1_missedSwaps_86 : decode cX1_missedSwaps 86 = .ok (.ireturn, 1) := by decide +kernel
theorem dX1_ofFigures_0 : decode cX1_ofFigures 0 = .ok (.iload_n 0, 1) := by decide +kernel
theorem dX1_ofFigures_1 : decode cX1_ofFigures 1 = .ok (.ifCond .ne 18, 3) := by decide +kernel
theorem dX1_ofFigures_4 : decode cX1_ofFigures 4 = .ok (.iload_n 1, 1) := by decide +kernel
theorem dX1_ofFigures_5 : decode cX1_ofFigures 5 = .ok (.iload_n 2, 1) := by decide +kernel
theorem dX1_ofFigures_6 : decode cX1_ofFigures 6 = .ok (.iadd, 1) := by decide +kernel
theorem dX1_ofFigures_7 : decode cX1_ofFigures 7 = .ok (.iload_n 3, 1) := by decide +kernel
theorem dX1_ofFigures_8 : decode cX1_ofFigures 8 = .ok (.iadd, 1) := by decide +kernel
theorem dX1_ofFigures_9 : decode cX1_ofFigures 9 = .ok (.iload 4, 2) := by decide +kernel
theorem dX1_ofFigures_11 : decode cX1_ofFigures 11 = .ok (.iadd, 1) := by decide +kernel
theorem dX1_ofFigures_12 : decode cX1_ofFigures 12 = .ok (.ineg, 1) := by decide +kernel
theorem dX1_ofFigures_13 : decode cX1_ofFigures 13 = .ok (.bipush 9, 2) := by decide +kernel
theorem dX1_ofFigures_15 : decode cX1_ofFigures 15 = .ok (.invokestatic 17, 3) := by decide +kernel
theorem dX1_ofFigures_18 : decode cX1_ofFigures 18 = .ok (.ireturn, 1) := by decide +kernel
theorem dX1_ofFigures_19 : decode cX1_ofFigures 19 = .ok (.iload_n 0, 1) := by decide +kernel
theorem dX1_ofFigures_20 : decode cX1_ofFigures 20 = .ok (.iconst 1, 1) := by decide +kernel
theorem dX1_ofFigures_21 : decode cX1_ofFigures 21 = .ok (.if_icmp .ne 26, 3) := by decide +kernel
theorem dX1_ofFigures_24 : decode cX1_ofFigures 24 = .ok (.iconst 5, 1) := by decide +kernel
theorem dX1_ofFigures_25 : decode cX1_ofFigures 25 = .ok (.iload_n 1, 1) := by decide +kernel
theorem dX1_ofFigures_26 : decode cX1_ofFigures 26 = .ok (.imul, 1) := by decide +kernel
theorem dX1_ofFigures_27 : decode cX1_ofFigures 27 = .ok (.iconst 4, 1) := by decide +kernel
theorem dX1_ofFigures_28 : decode cX1_ofFigures 28 = .ok (.iload_n 2, 1) := by decide +kernel
theorem dX1_ofFigures_29 : decode cX1_ofFigures 29 = .ok (.imul, 1) := by decide +kernel
theorem dX1_ofFigures_30 : decode cX1_ofFigures 30 = .ok (.iadd, 1) := by decide +kernel
theorem dX1_ofFigures_31 : decode cX1_ofFigures 31 = .ok (.iconst 3, 1) := by decide +kernel
theorem dX1_ofFigures_32 : decode cX1_ofFigures 32 = .ok (.iload_n 3, 1) := by decide +kernel
theorem dX1_ofFigures_33 : decode cX1_ofFigures 33 = .ok (.imul, 1) := by decide +kernel
theorem dX1_ofFigures_34 : decode cX1_ofFigures 34 = .ok (.iadd, 1) := by decide +kernel
theorem dX1_ofFigures_35 : decode cX1_ofFigures 35 = .ok (.iconst 2, 1) := by decide +kernel
theorem dX1_ofFigures_36 : decode cX1_ofFigures 36 = .ok (.iload 4, 2) := by decide +kernel
theorem dX1_ofFigures_38 : decode cX1_ofFigures 38 = .ok (.imul, 1) := by decide +kernel
theorem dX1_ofFigures_39 : decode cX1_ofFigures 39 = .ok (.iadd, 1) := by decide +kernel
theorem dX1_ofFigures_40 : decode cX1_ofFigures 40 = .ok (.ineg, 1) := by decide +kernel
theorem dX1_ofFigures_41 : decode cX1_ofFigures 41 = .ok (.bipush 11, 2) := by decide +kernel
theorem dX1_ofFigures_43 : decode cX1_ofFigures 43 = .ok (.invokestatic 17, 3) := by decide +kernel
theorem dX1_ofFigures_46 : decode cX1_ofFigures 46 = .ok (.ireturn, 1) := by decide +kernel
theorem dX1_ofFigures_47 : decode cX1_ofFigures 47 = .ok (.iload_n 1, 1) := by decide +kernel
theorem dX1_ofFigures_48 : decode cX1_ofFigures 48 = .ok (.iload_n 2, 1) := by decide +kernel
theorem dX1_ofFigures_49 : decode cX1_ofFigures 49 = .ok (.iload_n 3, 1) := by decide +kernel
theorem dX1_ofFigures_50 : decode cX1_ofFigures 50 = .ok (.iload 4, 2) := by decide +kernel
theorem dX1_ofFigures_52 : decode cX1_ofFigures 52 = .ok (.invokestatic 23, 3) := by decide +kernel
theorem dX1_ofFigures_55 : decode cX1_ofFigures 55 = .ok (.ireturn, 1) := by decide +kernel
theorem dX1_byTurns_0 : decode cX1_byTurns 0 = .ok (.iload_n 0, 1) := by decide +kernel
theorem dX1_byTurns_1 : decode cX1_byTurns 1 = .ok (.bipush 10, 2) := by decide +kernel
theorem dX1_byTurns_3 : decode cX1_byTurns 3 = .ok (.irem, 1) := by decide +kernel
theorem dX1_byTurns_4 : decode cX1_byTurns 4 = .ok (.istore 4, 2) := by decide +kernel
theorem dX1_byTurns_6 : decode cX1_byTurns 6 = .ok (.iload 4, 2) := by decide +kernel
theorem dX1_byTurns_8 : decode cX1_byTurns 8 = .ok (.iload_n 1, 1) := by decide +kernel
theorem dX1_byTurns_9 : decode cX1_byTurns 9 = .ok (.iconst 1, 1) := by decide +kernel
theorem dX1_byTurns_10 : decode cX1_byTurns 10 = .ok (.invokestatic 27, 3) := by decide +kernel
theorem dX1_byTurns_13 : decode cX1_byTurns 13 = .ok (.invokestatic 30, 3) := by decide +kernel
theorem dX1_byTurns_16 : decode cX1_byTurns 16 = .ok (.istore 4, 2) := by decide +kernel
theorem dX1_byTurns_18 : decode cX1_byTurns 18 = .ok (.iload 4, 2) := by decide +kernel
theorem dX1_byTurns_20 : decode cX1_byTurns 20 = .ok (.iload_n 2, 1) := by decide +kernel
theorem dX1_byTurns_21 : decode cX1_byTurns 21 = .ok (.iconst 2, 1) := by decide +kernel
theorem dX1_byTurns_22 : decode cX1_byTurns 22 = .ok (.invokestatic 27, 3) := by decide +kernel
theorem dX1_byTurns_25 : decode cX1_byTurns 25 = .ok (.invokestatic 30, 3) := by decide +kernel
theorem dX1_byTurns_28 : decode cX1_byTurns 28 = .ok (.istore 4, 2) := by decide +kernel
theorem dX1_byTurns_30 : decode cX1_byTurns 30 = .ok (.iload 4, 2) := by decide +kernel
theorem dX1_byTurns_32 : decode cX1_byTurns 32 = .ok (.iload_n 3, 1) := by decide +kernel
theorem dX1_byTurns_33 : decode cX1_byTurns 33 = .ok (.iconst 3, 1) := by decide +kernel
theorem dX1_byTurns_34 : decode cX1_byTurns 34 = .ok (.invokestatic 27, 3) := by decide +kernel
theorem dX1_byTurns_37 : decode cX1_byTurns 37 = .ok (.invokestatic 30, 3) := by decide +kernel
theorem dX1_byTurns_40 : decode cX1_byTurns 40 = .ok (.istore 4, 2) := by decide +kernel
theorem dX1_byTurns_42 : decode cX1_byTurns 42 = .ok (.iload 4, 2) := by decide +kernel
theorem dX1_byTurns_44 : decode cX1_byTurns 44 = .ok (.iconst 5, 1) := by decide +kernel
theorem dX1_byTurns_45 : decode cX1_byTurns 45 = .ok (.if_icmp .ge 12, 3) := by decide +kernel
theorem dX1_byTurns_48 : decode cX1_byTurns 48 = .ok (.iconst 5, 1) := by decide +kernel
theorem dX1_byTurns_49 : decode cX1_byTurns 49 = .ok (.iload 4, 2) := by decide +kernel
theorem dX1_byTurns_51 : decode cX1_byTurns 51 = .ok (.isub, 1) := by decide +kernel
theorem dX1_byTurns_52 : decode cX1_byTurns 52 = .ok (.iconst 5, 1) := by decide +kernel
theorem dX1_byTurns_53 : decode cX1_byTurns 53 = .ok (.irem, 1) := by decide +kernel
theorem dX1_byTurns_54 : decode cX1_byTurns 54 = .ok (.goto 5, 3) := by decide +kernel
theorem dX1_byTurns_57 : decode cX1_byTurns 57 = .ok (.iload 4, 2) := by decide +kernel
theorem dX1_byTurns_59 : decode cX1_byTurns 59 = .ok (.ireturn, 1) := by decide +kernel
theorem dX1_make_0 : decode cX1_make 0 = .ok (.iload_n 0, 1) := by decide +kernel
theorem dX1_make_1 : decode cX1_make 1 = .ok (.iconst 5, 1) := by decide +kernel
theorem dX1_make_2 : decode cX1_make 2 = .ok (.if_icmp .ge 11, 3) := by decide +kernel
theorem dX1_make_5 : decode cX1_make 5 = .ok (.iload_n 0, 1) := by decide +kernel
theorem dX1_make_6 : decode cX1_make 6 = .ok (.iload_n 1, 1) := by decide +kernel
theorem dX1_make_7 : decode cX1_make 7 = .ok (.iadd, 1) := by decide +kernel
theorem dX1_make_8 : decode cX1_make 8 = .ok (.iconst 5, 1) := by decide +kernel
theorem dX1_make_9 : decode cX1_make 9 = .ok (.irem, 1) := by decide +kernel
theorem dX1_make_10 : decode cX1_make 10 = .ok (.goto 10, 3) := by decide +kernel
theorem dX1_make_13 : decode cX1_make 13 = .ok (.iload_n 0, 1) := by decide +kernel
theorem dX1_make_14 : decode cX1_make 14 = .ok (.iload_n 1, 1) := by decide +kernel
theorem dX1_make_15 : decode cX1_make 15 = .ok (.isub, 1) := by decide +kernel
theorem dX1_make_16 : decode cX1_make 16 = .ok (.iconst 5, 1) := by decide +kernel
theorem dX1_make_17 : decode cX1_make 17 = .ok (.iadd, 1) := by decide +kernel
theorem dX1_make_18 : decode cX1_make 18 = .ok (.iconst 5, 1) := by decide +kernel
theorem dX1_make_19 : decode cX1_make 19 = .ok (.irem, 1) := by decide +kernel
theorem dX1_make_20 : decode cX1_make 20 = .ok (.istore_n 2, 1) := by decide +kernel
theorem dX1_make_21 : decode cX1_make 21 = .ok (.iload_n 0, 1) := by decide +kernel
theorem dX1_make_22 : decode cX1_make 22 = .ok (.iconst 5, 1) := by decide +kernel
theorem dX1_make_23 : decode cX1_make 23 = .ok (.if_icmp .ge 7, 3) := by decide +kernel
theorem dX1_make_26 : decode cX1_make 26 = .ok (.iconst 1, 1) := by decide +kernel
theorem dX1_make_27 : decode cX1_make 27 = .ok (.goto 4, 3) := by decide +kernel
theorem dX1_make_30 : decode cX1_make 30 = .ok (.iconst 0, 1) := by decide +kernel
theorem dX1_make_31 : decode cX1_make 31 = .ok (.iload_n 1, 1) := by decide +kernel
theorem dX1_make_32 : decode cX1_make 32 = .ok (.iconst 5, 1) := by decide +kernel
theorem dX1_make_33 : decode cX1_make 33 = .ok (.if_icmp .ge 7, 3) := by decide +kernel
theorem dX1_make_36 : decode cX1_make 36 = .ok (.iconst 1, 1) := by decide +kernel
theorem dX1_make_37 : decode cX1_make 37 = .ok (.goto 4, 3) := by decide +kernel
theorem dX1_make_40 : decode cX1_make 40 = .ok (.iconst 0, 1) := by decide +kernel
theorem dX1_make_41 : decode cX1_make 41 = .ok (.if_icmp .ne 7, 3) := by decide +kernel
theorem dX1_make_44 : decode cX1_make 44 = .ok (.iload_n 2, 1) := by decide +kernel
theorem dX1_make_45 : decode cX1_make 45 = .ok (.goto 6, 3) := by decide +kernel
theorem dX1_make_48 : decode cX1_make 48 = .ok (.iconst 5, 1) := by decide +kernel
theorem dX1_make_49 : decode cX1_make 49 = .ok (.iload_n 2, 1) := by decide +kernel
theorem dX1_make_50 : decode cX1_make 50 = .ok (.iadd, 1) := by decide +kernel
theorem dX1_make_51 : decode cX1_make 51 = .ok (.ireturn, 1) := by decide +kernel
theorem dX1_turned_0 : decode cX1_turned 0 = .ok (.iload_n 0, 1) := by decide +kernel
theorem dX1_turned_1 : decode cX1_turned 1 = .ok (.istore_n 2, 1) := by decide +kernel
theorem dX1_turned_2 : decode cX1_turned 2 = .ok (.iconst 0, 1) := by decide +kernel
theorem dX1_turned_3 : decode cX1_turned 3 = .ok (.istore_n 3, 1) := by decide +kernel
theorem dX1_turned_4 : decode cX1_turned 4 = .ok (.iload_n 3, 1) := by decide +kernel
theorem dX1_turned_5 : decode cX1_turned 5 = .ok (.iload_n 1, 1) := by decide +kernel
theorem dX1_turned_6 : decode cX1_turned 6 = .ok (.if_icmp .ge 29, 3) := by decide +kernel
theorem dX1_turned_9 : decode cX1_turned 9 = .ok (.iload_n 2, 1) := by decide +kernel
theorem dX1_turned_10 : decode cX1_turned 10 = .ok (.iconst 0, 1) := by decide +kernel
theorem dX1_turned_11 : decode cX1_turned 11 = .ok (.bipush 9, 2) := by decide +kernel
theorem dX1_turned_13 : decode cX1_turned 13 = .ok (.invokestatic 33, 3) := by decide +kernel
theorem dX1_turned_16 : decode cX1_turned 16 = .ok (.ifCond .eq 11, 3) := by decide +kernel
theorem dX1_turned_19 : decode cX1_turned 19 = .ok (.getstatic 39, 3) := by decide +kernel
theorem dX1_turned_22 : decode cX1_turned 22 = .ok (.iload_n 2, 1) := by decide +kernel
theorem dX1_turned_23 : decode cX1_turned 23 = .ok (.iaload, 1) := by decide +kernel
theorem dX1_turned_24 : decode cX1_turned 24 = .ok (.goto 4, 3) := by decide +kernel
theorem dX1_turned_27 : decode cX1_turned 27 = .ok (.iconst 0, 1) := by decide +kernel
theorem dX1_turned_28 : decode cX1_turned 28 = .ok (.istore_n 2, 1) := by decide +kernel
theorem dX1_turned_29 : decode cX1_turned 29 = .ok (.iinc 3 1, 3) := by decide +kernel
theorem dX1_turned_32 : decode cX1_turned 32 = .ok (.goto (-28), 3) := by decide +kernel
theorem dX1_turned_35 : decode cX1_turned 35 = .ok (.iload_n 2, 1) := by decide +kernel
theorem dX1_turned_36 : decode cX1_turned 36 = .ok (.ireturn, 1) := by decide +kernel
