theorem dX2_init_0 : decode cX2_init 0 = .ok (.aload_n 0, 1) := by decide +kernel
theorem dX2_init_1 : decode cX2_init 1 = .ok (.invokespecial 3, 3) := by decide +kernel
theorem dX2_init_4 : decode cX2_init 4 = .ok (.aload_n 0, 1) := by decide +kernel
theorem dX2_init_5 : decode cX2_init 5 = .ok (.iconst 4, 1) := by decide +kernel
theorem dX2_init_6 : decode cX2_init 6 = .ok (.newarray .int, 2) := by decide +kernel
theorem dX2_init_8 : decode cX2_init 8 = .ok (.putfield 9, 3) := by decide +kernel
theorem dX2_init_11 : decode cX2_init 11 = .ok (.aload_n 0, 1) := by decide +kernel
theorem dX2_init_12 : decode cX2_init 12 = .ok (.iconst 3, 1) := by decide +kernel
theorem dX2_init_13 : decode cX2_init 13 = .ok (.anewarray 15, 3) := by decide +kernel
theorem dX2_init_16 : decode cX2_init 16 = .ok (.putfield 17, 3) := by decide +kernel
theorem dX2_init_19 : decode cX2_init 19 = .ok (.iconst 0, 1) := by decide +kernel
theorem dX2_init_20 : decode cX2_init 20 = .ok (.istore_n 1, 1) := by decide +kernel
theorem dX2_init_21 : decode cX2_init 21 = .ok (.iload_n 1, 1) := by decide +kernel
theorem dX2_init_22 : decode cX2_init 22 = .ok (.iconst 3, 1) := by decide +kernel
theorem dX2_init_23 : decode cX2_init 23 = .ok (.if_icmp .ge 22, 3) := by decide +kernel
theorem dX2_init_26 : decode cX2_init 26 = .ok (.aload_n 0, 1) := by decide +kernel
theorem dX2_init_27 : decode cX2_init 27 = .ok (.getfield 17, 3) := by decide +kernel
theorem dX2_init_30 : decode cX2_init 30 = .ok (.iload_n 1, 1) := by decide +kernel
theorem dX2_init_31 : decode cX2_init 31 = .ok (.new 15, 3) := by decide +kernel
theorem dX2_init_34 : decode cX2_init 34 = .ok (.dup, 1) := by decide +kernel
theorem dX2_init_35 : decode cX2_init 35 = .ok (.invokespecial 21, 3) := by decide +kernel
theorem dX2_init_38 : decode cX2_init 38 = .ok (.aastore, 1) := by decide +kernel
theorem dX2_init_39 : decode cX2_init 39 = .ok (.iinc 1 1, 3) := by decide +kernel
theorem dX2_init_42 : decode cX2_init 42 = .ok (.goto (-21), 3) := by decide +kernel
theorem dX2_init_45 : decode cX2_init 45 = .ok (.return_, 1) := by decide +kernel
theorem dX2_clear_0 : decode cX2_clear 0 = .ok (.aload_n 0, 1) := by decide +kernel
theorem dX2_clear_1 : decode cX2_clear 1 = .ok (.iconst 0, 1) := by decide +kernel
theorem dX2_clear_2 : decode cX2_clear 2 = .ok (.putfield 22, 3) := by decide +kernel
theorem dX2_clear_5 : decode cX2_clear 5 = .ok (.aload_n 0, 1) := by decide +kernel
theorem dX2_clear_6 : decode cX2_clear 6 = .ok (.iconst 0, 1) := by decide +kernel
theorem dX2_clear_7 : decode cX2_clear 7 = .ok (.putfield 26, 3) := by decide +kernel
theorem dX2_clear_10 : decode cX2_clear 10 = .ok (.aload_n 0, 1) := by decide +kernel
theorem dX2_clear_11 : decode cX2_clear 11 = .ok (.bipush 20, 2) := by decide +kernel
theorem dX2_clear_13 : decode cX2_clear 13 = .ok (.putfield 29, 3) := by decide +kernel
theorem dX2_clear_16 : decode cX2_clear 16 = .ok (.return_, 1) := by decide +kernel
theorem dX2_addPress_0 : decode cX2_addPress 0 = .ok (.aload_n 0, 1) := by decide +kernel
theorem dX2_addPress_1 : decode cX2_addPress 1 = .ok (.getfield 22, 3) := by decide +kernel
theorem dX2_addPress_4 : decode cX2_addPress 4 = .ok (.iconst 4, 1) := by decide +kernel
theorem dX2_addPress_5 : decode cX2_addPress 5 = .ok (.if_icmp .ge 10, 3) := by decide +kernel
theorem dX2_addPress_8 : decode cX2_addPress 8 = .ok (.aload_n 0, 1) := by decide +kernel
theorem dX2_addPress_9 : decode cX2_addPress 9 = .ok (.getfield 26, 3) := by decide +kernel
theorem dX2_addPress_12 : decode cX2_addPress 12 = .ok (.ifCond .le 5, 3) := by decide +kernel
theorem dX2_addPress_15 : decode cX2_addPress 15 = .ok (.iconst 0, 1) := by decide +kernel
theorem dX2_addPress_16 : decode cX2_addPress 16 = .ok (.ireturn, 1) := by decide +kernel
theorem dX2_addPress_17 : decode cX2_addPress 17 = .ok (.aload_n 0, 1) := by decide +kernel
theorem dX2_addPress_18 : decode cX2_addPress 18 = .ok (.getfield 9, 3) := by decide +kernel
theorem dX2_addPress_21 : decode cX2_addPress 21 = .ok (.aload_n 0, 1) := by decide +kernel
theorem dX2_addPress_22 : decode cX2_addPress 22 = .ok (.getfield 22, 3) := by decide +kernel
theorem dX2_addPress_25 : decode cX2_addPress 25 = .ok (.iload_n 1, 1) := by decide +kernel
theorem dX2_addPress_26 : decode cX2_addPress 26 = .ok (.iastore, 1) := by decide +kernel
theorem dX2_addPress_27 : decode cX2_addPress 27 = .ok (.aload_n 0, 1) := by decide +kernel
theorem dX2_addPress_28 : decode cX2_addPress 28 = .ok (.dup, 1) := by decide +kernel
theorem dX2_addPress_29 : decode cX2_addPress 29 = .ok (.getfield 22, 3) := by decide +kernel
theorem dX2_addPress_32 : decode cX2_addPress 32 = .ok (.iconst 1, 1) := by decide +kernel
theorem dX2_addPress_33 : decode cX2_addPress 33 = .ok (.iadd, 1) := by decide +kernel
theorem dX2_addPress_34 : decode cX2_addPress 34 = .ok (.putfield 22, 3) := by decide +kernel
theorem dX2_addPress_37 : decode cX2_addPress 37 = .ok (.iconst 1, 1) := by decide +kernel
theorem dX2_addPress_38 : decode cX2_addPress 38 = .ok (.ireturn, 1) := by decide +kernel
theorem dX2_nextSeries_0 : decode cX2_nextSeries 0 = .ok (.aload_n 0, 1) := by decide +kernel
theorem dX2_nextSeries_1 : decode cX2_nextSeries 1 = .ok (.getfield 26, 3) := by decide +kernel
theorem dX2_nextSeries_4 : decode cX2_nextSeries 4 = .ok (.iconst 3, 1) := by decide +kernel
theorem dX2_nextSeries_5 : decode cX2_nextSeries 5 = .ok (.if_icmp .ge 15, 3) := by decide +kernel
theorem dX2_nextSeries_8 : decode cX2_nextSeries 8 = .ok (.aload_n 0, 1) := by decide +kernel
theorem dX2_nextSeries_9 : decode cX2_nextSeries 9 = .ok (.getfield 17, 3) := by decide +kernel
theorem dX2_nextSeries_12 : decode cX2_nextSeries 12 = .ok (.aload_n 0, 1) := by decide +kernel
theorem dX2_nextSeries_13 : decode cX2_nextSeries 13 = .ok (.getfield 26, 3) := by decide +kernel
theorem dX2_nextSeries_16 : decode cX2_nextSeries 16 = .ok (.aaload, 1) := by decide +kernel
theorem dX2_nextSeries_17 : decode cX2_nextSeries 17 = .ok (.goto 4, 3) := by decide +kernel
theorem dX2_nextSeries_20 : decode cX2_nextSeries 20 = .ok (.aconst_null, 1) := by decide +kernel
theorem dX2_nextSeries_21 : decode cX2_nextSeries 21 = .ok (.areturn, 1) := by decide +kernel
theorem dX2_keepNextSeries_0 : decode cX2_keepNextSeries 0 = .ok (.aload_n 0, 1) := by decide +kernel
theorem dX2_keepNextSeries_1 : decode cX2_keepNextSeries 1 = .ok (.getfield 26, 3) := by decide +kernel
theorem dX2_keepNextSeries_4 : decode cX2_keepNextSeries 4 = .ok (.iconst 3, 1) := by decide +kernel
theorem dX2_keepNextSeries_5 : decode cX2_keepNextSeries 5 = .ok (.if_icmp .ge 13, 3) := by decide +kernel
theorem dX2_keepNextSeries_8 : decode cX2_keepNextSeries 8 = .ok (.aload_n 0, 1) := by decide +kernel
theorem dX2_keepNextSeries_9 : decode cX2_keepNextSeries 9 = .ok (.dup, 1) := by decide +kernel
theorem dX2_keepNextSeries_10 : decode cX2_keepNextSeries 10 = .ok (.getfield 26, 3) := by decide +kernel
theorem dX2_keepNextSeries_13 : decode cX2_keepNextSeries 13 = .ok (.iconst 1, 1) := by decide +kernel
theorem dX2_keepNextSeries_14 : decode cX2_keepNextSeries 14 = .ok (.iadd, 1) := by decide +kernel
theorem dX2_keepNextSeries_15 : decode cX2_keepNextSeries 15 = .ok (.putfield 26, 3) := by decide +kernel
theorem dX2_keepNextSeries_18 : decode cX2_keepNextSeries 18 = .ok (.return_, 1) := by decide +kernel
theorem dX2_seriesAt_0 : decode cX2_seriesAt 0 = .ok (.iload_n 1, 1) := by decide +kernel
theorem dX2_seriesAt_1 : decode cX2_seriesAt 1 = .ok (.iconst 0, 1) := by decide +kernel
theorem dX2_seriesAt_2 : decode cX2_seriesAt 2 = .ok (.aload_n 0, 1) := by decide +kernel
theorem dX2_seriesAt_3 : decode cX2_seriesAt 3 = .ok (.getfield 26, 3) := by decide +kernel
theorem dX2_seriesAt_6 : decode cX2_seriesAt 6 = .ok (.iconst 1, 1) := by decide +kernel
theorem dX2_seriesAt_7 : decode cX2_seriesAt 7 = .ok (.isub, 1) := by decide +kernel
theorem dX2_seriesAt_8 : decode cX2_seriesAt 8 = .ok (.invokestatic 32, 3) := by decide +kernel
theorem dX2_seriesAt_11 : decode cX2_seriesAt 11 = .ok (.ifCond .eq 12, 3) := by decide +kernel
theorem dX2_seriesAt_14 : decode cX2_seriesAt 14 = .ok (.aload_n 0, 1) := by decide +kernel
theorem dX2_seriesAt_15 : decode cX2_seriesAt 15 = .ok (.getfield 17, 3) := by decide +kernel
theorem dX2_seriesAt_18 : decode cX2_seriesAt 18 = .ok (.iload_n 1, 1) := by decide +kernel
theorem dX2_seriesAt_19 : decode cX2_seriesAt 19 = .ok (.aaload, 1) := by decide +kernel
theorem dX2_seriesAt_20 : decode cX2_seriesAt 20 = .ok (.goto 4, 3) := by decide +kernel
theorem dX2_seriesAt_23 : decode cX2_seriesAt 23 = .ok (.aconst_null, 1) := by decide +kernel
theorem dX2_seriesAt_24 : decode cX2_seriesAt 24 = .ok (.areturn, 1) := by decide +kernel
theorem dX2_shareAt_0 : decode cX2_shareAt 0 = .ok (.aload_n 0, 1) := by decide +kernel
theorem dX2_shareAt_1 : decode cX2_shareAt 1 = .ok (.iload_n 1, 1) := by decide +kernel
theorem dX2_shareAt_2 : decode cX2_shareAt 2 = .ok (.invokevirtual 36, 3) := by decide +kernel
theorem dX2_shareAt_5 : decode cX2_shareAt 5 = .ok (.astore_n 3, 1) := by decide +kernel
theorem dX2_shareAt_6 : decode cX2_shareAt 6 = .ok (.aload_n 3, 1) := by decide +kernel
theorem dX2_shareAt_7 : decode cX2_shareAt 7 = .ok (.ifnonnull 7, 3) := by decide +kernel
theorem dX2_shareAt_10 : decode cX2_shareAt 10 = .ok (.aconst_null, 1) := by decide +kernel
theorem dX2_shareAt_11 : decode cX2_shareAt 11 = .ok (.goto 8, 3) := by decide +kernel
theorem dX2_shareAt_14 : decode cX2_shareAt 14 = .ok (.aload_n 3, 1) := by decide +kernel
theorem dX2_shareAt_15 : decode cX2_shareAt 15 = .ok (.iload_n 2, 1) := by decide +kernel
theorem dX2_shareAt_16 : decode cX2_shareAt 16 = .ok (.invokevirtual 40, 3) := by decide +kernel
theorem dX2_shareAt_19 : decode cX2_shareAt 19 = .ok (.areturn, 1) := by decide +kernel
theorem dX2_seriesOfLetter_0 : decode cX2_seriesOfLetter 0 = .ok (.iconst 0, 1) := by decide +kernel
theorem dX2_seriesOfLetter_1 : decode cX2_seriesOfLetter 1 = .ok (.istore_n 2, 1) := by decide +kernel
theorem dX2_seriesOfLetter_2 : decode cX2_seriesOfLetter 2 = .ok (.iload_n 2, 1) := by decide +kernel
theorem dX2_seriesOfLetter_3 : decode cX2_seriesOfLetter 3 = .ok (.aload_n 0, 1) := by decide +kernel
theorem dX2_seriesOfLetter_4 : decode cX2_seriesOfLetter 4 = .ok (.getfield 26, 3) := by decide +kernel
theorem dX2_seriesOfLetter_7 : decode cX2_seriesOfLetter 7 = .ok (.if_icmp .ge 24, 3) := by decide +kernel
theorem dX2_seriesOfLetter_10 : decode cX2_seriesOfLetter 10 = .ok (.aload_n 0, 1) := by decide +kernel
theorem dX2_seriesOfLetter_11 : decode cX2_seriesOfLetter 11 = .ok (.getfield 17, 3) := by decide +kernel
theorem dX2_seriesOfLetter_14 : decode cX2_seriesOfLetter 14 = .ok (.iload_n 2, 1) := by decide +kernel
theorem dX2_seriesOfLetter_15 : decode cX2_seriesOfLetter 15 = .ok (.aaload, 1) := by decide +kernel
theorem dX2_seriesOfLetter_16 : decode cX2_seriesOfLetter 16 = .ok (.getfield 44, 3) := by decide +kernel
theorem dX2_seriesOfLetter_19 : decode cX2_seriesOfLetter 19 = .ok (.iload_n 1, 1) := by decide +kernel
theorem dX2_seriesOfLetter_20 : decode cX2_seriesOfLetter 20 = .ok (.if_icmp .ne 5, 3) := by decide +kernel
theorem dX2_seriesOfLetter_23 : decode cX2_seriesOfLetter 23 = .ok (.iload_n 2, 1) := by decide +kernel
theorem dX2_seriesOfLetter_24 : decode cX2_seriesOfLetter 24 = .ok (.ireturn, 1) := by decide +kernel
theorem dX2_seriesOfLetter_25 : decode cX2_seriesOfLetter 25 = .ok (.iinc 2 1, 3) := by decide +kernel
theorem dX2_seriesOfLetter_28 : decode cX2_seriesOfLetter 28 = .ok (.goto (-26), 3) := by decide +kernel
theorem dX2_seriesOfLetter_31 : decode cX2_seriesOfLetter 31 = .ok (.bipush (-4), 2) := by decide +kernel
theorem dX2_seriesOfLetter_33 : decode cX2_seriesOfLetter 33 = .ok (.ireturn, 1) := by decide +kernel
theorem dX2_notesPrinted_0 : decode cX2_notesPrinted 0 = .ok (.iconst 0, 1) := by decide +kernel
theorem dX2_notesPrinted_1 : decode cX2_notesPrinted 1 = .ok (.istore_n 1, 1) := by decide +kernel
theorem dX2_notesPrinted_2 : decode cX2_notesPrinted 2 = .ok (.iconst 0, 1) := by decide +kernel
theorem dX2_notesPrinted_3 : decode cX2_notesPrinted 3 = .ok (.istore_n 2, 1) := by decide +kernel
theorem dX2_notesPrinted_4 : decode cX2_notesPrinted 4 = .ok (.iload_n 2, 1) := by decide +kernel
theorem dX2_notesPrinted_5 : decode cX2_notesPrinted 5 = .ok (.aload_n 0, 1) := by decide +kernel
theorem dX2_notesPrinted_6 : decode cX2_notesPrinted 6 = .ok (.getfield 26, 3) := by decide +kernel
theorem dX2_notesPrinted_9 : decode cX2_notesPrinted 9 = .ok (.if_icmp .ge 21, 3) := by decide +kernel
theorem dX2_notesPrinted_12 : decode cX2_notesPrinted 12 = .ok (.iload_n 1, 1) := by decide +kernel
theorem dX2_notesPrinted_13 : decode cX2_notesPrinted 13 = .ok (.aload_n 0, 1) := by decide +kernel
theorem dX2_notesPrinted_14 : decode cX2_notesPrinted 14 = .ok (.getfield 17, 3) := by decide +kernel
theorem dX2_notesPrinted_17 : decode cX2_notesPrinted 17 = .ok (.iload_n 2, 1) := by decide +kernel
theorem dX2_notesPrinted_18 : decode cX2_notesPrinted 18 = .ok (.aaload, 1) := by decide +kernel
theorem dX2_notesPrinted_19 : decode cX2_notesPrinted 19 = .ok (.invokevirtual 47, 3) := by decide +kernel
theorem dX2_notesPrinted_22 : decode cX2_notesPrinted 22 = .ok (.iadd, 1) := by decide +kernel
theorem dX2_notesPrinted_23 : decode cX2_notesPrinted 23 = .ok (.istore_n 1, 1) := by decide +kernel
theorem dX2_notesPrinted_24 : decode cX2_notesPrinted 24 = .ok (.iinc 2 1, 3) := by decide +kernel
theorem dX2_notesPrinted_27 : decode cX2_notesPrinted 27 = .ok (.goto (-23), 3) := by decide +kernel
theorem dX2_notesPrinted_30 : decode cX2_notesPrinted 30 = .ok (.iload_n 1, 1) := by decide +kernel
theorem dX2_notesPrinted_31 : decode cX2_notesPrinted 31 = .ok (.ireturn, 1) := by decide +kernel
theorem dX2_sheetsRun_0 : decode cX2_sheetsRun 0 = .ok (.iconst 0, 1) := by decide +kernel
theorem dX2_sheetsRun_1 : decode cX2_sheetsRun 1 = .ok (.istore_n 1, 1) := by decide +kernel
theorem dX2_sheetsRun_2 : decode cX2_sheetsRun 2 = .ok (.iconst 0, 1) := by decide +kernel
theorem dX2_sheetsRun_3 : decode cX2_sheetsRun 3 = .ok (.istore_n 2, 1) := by decide +kernel
theorem dX2_sheetsRun_4 : decode cX2_sheetsRun 4 = .ok (.iload_n 2, 1) := by decide +kernel
theorem dX2_sheetsRun_5 : decode cX2_sheetsRun 5 = .ok (.aload_n 0, 1) := by decide +kernel
theorem dX2_sheetsRun_6 : decode cX2_sheetsRun 6 = .ok (.getfield 26, 3) := by decide +kernel
theorem dX2_sheetsRun_9 : decode cX2_sheetsRun 9 = .ok (.if_icmp .ge 21, 3) := by decide +kernel
theorem dX2_sheetsRun_12 : decode cX2_sheetsRun 12 = .ok (.iload_n 1, 1) := by decide +kernel
theorem dX2_sheetsRun_13 : decode cX2_sheetsRun 13 = .ok (.aload_n 0, 1) := by decide +kernel
theorem dX2_sheetsRun_14 : decode cX2_sheetsRun 14 = .ok (.getfield 17, 3) := by decide +kernel
theorem dX2_sheetsRun_17 : decode cX2_sheetsRun 17 = .ok (.iload_n 2, 1) := by decide +kernel
theorem dX2_sheetsRun_18 : decode cX2_sheetsRun 18 = .ok (.aaload, 1) := by decide +kernel
theorem dX2_sheetsRun_19 : decode cX2_sheetsRun 19 = .ok (.invokevirtual 51, 3) := by decide +kernel
theorem dX2_sheetsRun_22 : decode cX2_sheetsRun 22 = .ok (.iadd, 1) := by decide +kernel
theorem dX2_sheetsRun_23 : decode cX2_sheetsRun 23 = .ok (.istore_n 1, 1) := by decide +kernel
theorem dX2_sheetsRun_24 : decode cX2_sheetsRun 24 = .ok (.iinc 2 1, 3) := by decide +kernel
theorem dX2_sheetsRun_27 : decode cX2_sheetsRun 27 = .ok (.goto (-23), 3) := by decide +kernel
theorem dX2_sheetsRun_30 : decode cX2_sheetsRun 30 = .ok (.iload_n 1, 1) := by decide +kernel
theorem dX2_sheetsRun_31 : decode cX2_sheetsRun 31 = .ok (.ireturn, 1) := by decide +kernel
theorem dX2_wholePacks_0 : decode cX2_wholePacks 0 = .ok (.iconst 0, 1) := by decide +kernel
theorem dX2_wholePacks_1 : decode cX2_wholePacks 1 = .ok (.istore_n 1, 1) := by decide +kernel
theorem dX2_wholePacks_2 : decode cX2_wholePacks 2 = .ok (.iconst 0, 1) := by decide +kernel
theorem dX2_wholePacks_3 : decode cX2_wholePacks 3 = .ok (.istore_n 2, 1) := by decide +kernel
theorem dX2_wholePacks_4 : decode cX2_wholePacks 4 = .ok (.iload_n 2, 1) := by decide +kernel
theorem dX2_wholePacks_5 : decode cX2_wholePacks 5 = .ok (.aload_n 0, 1) := by decide +kernel
theorem dX2_wholePacks_6 : decode cX2_wholePacks 6 = .ok (.getfield 26, 3) := by decide +kernel
theorem dX2_wholePacks_9 : decode cX2_wholePacks 9 = .ok (.if_icmp .ge 21, 3) := by decide +kernel
theorem dX2_wholePacks_12 : decode cX2_wholePacks 12 = .ok (.iload_n 1, 1) := by decide +kernel
theorem dX2_wholePacks_13 : decode cX2_wholePacks 13 = .ok (.aload_n 0, 1) := by decide +kernel
theorem dX2_wholePacks_14 : decode cX2_wholePacks 14 = .ok (.getfield 17, 3) := by decide +kernel
theorem dX2_wholePacks_17 : decode cX2_wholePacks 17 = .ok (.iload_n 2, 1) := by decide +kernel
theorem dX2_wholePacks_18 : decode cX2_wholePacks 18 = .ok (.aaload, 1) := by decide +kernel
theorem dX2_wholePacks_19 : decode cX2_wholePacks 19 = .ok (.invokevirtual 54, 3) := by decide +kernel
theorem dX2_wholePacks_22 : decode cX2_wholePacks 22 = .ok (.iadd, 1) := by decide +kernel
theorem dX2_wholePacks_23 : decode cX2_wholePacks 23 = .ok (.istore_n 1, 1) := by decide +kernel
theorem dX2_wholePacks_24 : decode cX2_wholePacks 24 = .ok (.iinc 2 1, 3) := by decide +kernel
theorem dX2_wholePacks_27 : decode cX2_wholePacks 27 = .ok (.goto (-23), 3) := by decide +kernel
theorem dX2_wholePacks_30 : decode cX2_wholePacks 30 = .ok (.iload_n 1, 1) := by decide +kernel
theorem dX2_wholePacks_31 : decode cX2_wholePacks 31 = .ok (.ireturn, 1) := by decide +kernel
