theorem dX3_init_0 : decode cX3_init 0 = .ok (.aload_n 0, 1) := by decide +kernel
theorem dX3_init_1 : decode cX3_init 1 = .ok (.invokespecial 3, 3) := by decide +kernel
theorem dX3_init_4 : decode cX3_init 4 = .ok (.aload_n 0, 1) := by decide +kernel
theorem dX3_init_5 : decode cX3_init 5 = .ok (.iconst 4, 1) := by decide +kernel
theorem dX3_init_6 : decode cX3_init 6 = .ok (.anewarray 9, 3) := by decide +kernel
theorem dX3_init_9 : decode cX3_init 9 = .ok (.putfield 11, 3) := by decide +kernel
theorem dX3_init_12 : decode cX3_init 12 = .ok (.iconst 0, 1) := by decide +kernel
theorem dX3_init_13 : decode cX3_init 13 = .ok (.istore_n 1, 1) := by decide +kernel
theorem dX3_init_14 : decode cX3_init 14 = .ok (.iload_n 1, 1) := by decide +kernel
theorem dX3_init_15 : decode cX3_init 15 = .ok (.iconst 4, 1) := by decide +kernel
theorem dX3_init_16 : decode cX3_init 16 = .ok (.if_icmp .ge 22, 3) := by decide +kernel
theorem dX3_init_19 : decode cX3_init 19 = .ok (.aload_n 0, 1) := by decide +kernel
theorem dX3_init_20 : decode cX3_init 20 = .ok (.getfield 11, 3) := by decide +kernel
theorem dX3_init_23 : decode cX3_init 23 = .ok (.iload_n 1, 1) := by decide +kernel
theorem dX3_init_24 : decode cX3_init 24 = .ok (.new 9, 3) := by decide +kernel
theorem dX3_init_27 : decode cX3_init 27 = .ok (.dup, 1) := by decide +kernel
theorem dX3_init_28 : decode cX3_init 28 = .ok (.invokespecial 17, 3) := by decide +kernel
theorem dX3_init_31 : decode cX3_init 31 = .ok (.aastore, 1) := by decide +kernel
theorem dX3_init_32 : decode cX3_init 32 = .ok (.iinc 1 1, 3) := by decide +kernel
theorem dX3_init_35 : decode cX3_init 35 = .ok (.goto (-21), 3) := by decide +kernel
theorem dX3_init_38 : decode cX3_init 38 = .ok (.return_, 1) := by decide +kernel
theorem dX3_begin_0 : decode cX3_begin 0 = .ok (.aload_n 0, 1) := by decide +kernel
theorem dX3_begin_1 : decode cX3_begin 1 = .ok (.iload_n 1, 1) := by decide +kernel
theorem dX3_begin_2 : decode cX3_begin 2 = .ok (.putfield 18, 3) := by decide +kernel
theorem dX3_begin_5 : decode cX3_begin 5 = .ok (.aload_n 0, 1) := by decide +kernel
theorem dX3_begin_6 : decode cX3_begin 6 = .ok (.iload_n 2, 1) := by decide +kernel
theorem dX3_begin_7 : decode cX3_begin 7 = .ok (.putfield 22, 3) := by decide +kernel
theorem dX3_begin_10 : decode cX3_begin 10 = .ok (.aload_n 0, 1) := by decide +kernel
theorem dX3_begin_11 : decode cX3_begin 11 = .ok (.iconst 0, 1) := by decide +kernel
theorem dX3_begin_12 : decode cX3_begin 12 = .ok (.putfield 25, 3) := by decide +kernel
theorem dX3_begin_15 : decode cX3_begin 15 = .ok (.aload_n 0, 1) := by decide +kernel
theorem dX3_begin_16 : decode cX3_begin 16 = .ok (.iconst 0, 1) := by decide +kernel
theorem dX3_begin_17 : decode cX3_begin 17 = .ok (.putfield 28, 3) := by decide +kernel
theorem dX3_begin_20 : decode cX3_begin 20 = .ok (.return_, 1) := by decide +kernel
theorem dX3_addShare_0 : decode cX3_addShare 0 = .ok (.aload_n 0, 1) := by decide +kernel
theorem dX3_addShare_1 : decode cX3_addShare 1 = .ok (.getfield 25, 3) := by decide +kernel
theorem dX3_addShare_4 : decode cX3_addShare 4 = .ok (.iconst 4, 1) := by decide +kernel
theorem dX3_addShare_5 : decode cX3_addShare 5 = .ok (.if_icmp .lt 4, 3) := by decide +kernel
theorem dX3_addShare_8 : decode cX3_addShare 8 = .ok (.return_, 1) := by decide +kernel
theorem dX3_addShare_9 : decode cX3_addShare 9 = .ok (.aload_n 0, 1) := by decide +kernel
theorem dX3_addShare_10 : decode cX3_addShare 10 = .ok (.getfield 11, 3) := by decide +kernel
theorem dX3_addShare_13 : decode cX3_addShare 13 = .ok (.aload_n 0, 1) := by decide +kernel
theorem dX3_addShare_14 : decode cX3_addShare 14 = .ok (.getfield 25, 3) := by decide +kernel
theorem dX3_addShare_17 : decode cX3_addShare 17 = .ok (.aaload, 1) := by decide +kernel
theorem dX3_addShare_18 : decode cX3_addShare 18 = .ok (.iload_n 1, 1) := by decide +kernel
theorem dX3_addShare_19 : decode cX3_addShare 19 = .ok (.iload_n 2, 1) := by decide +kernel
theorem dX3_addShare_20 : decode cX3_addShare 20 = .ok (.aload_n 0, 1) := by decide +kernel
theorem dX3_addShare_21 : decode cX3_addShare 21 = .ok (.getfield 28, 3) := by decide +kernel
theorem dX3_addShare_24 : decode cX3_addShare 24 = .ok (.invokevirtual 31, 3) := by decide +kernel
theorem dX3_addShare_27 : decode cX3_addShare 27 = .ok (.aload_n 0, 1) := by decide +kernel
theorem dX3_addShare_28 : decode cX3_addShare 28 = .ok (.dup, 1) := by decide +kernel
theorem dX3_addShare_29 : decode cX3_addShare 29 = .ok (.getfield 28, 3) := by decide +kernel
theorem dX3_addShare_32 : decode cX3_addShare 32 = .ok (.iload_n 1, 1) := by decide +kernel
theorem dX3_addShare_33 : decode cX3_addShare 33 = .ok (.iload_n 2, 1) := by decide +kernel
theorem dX3_addShare_34 : decode cX3_addShare 34 = .ok (.imul, 1) := by decide +kernel
theorem dX3_addShare_35 : decode cX3_addShare 35 = .ok (.iadd, 1) := by decide +kernel
theorem dX3_addShare_36 : decode cX3_addShare 36 = .ok (.putfield 28, 3) := by decide +kernel
theorem dX3_addShare_39 : decode cX3_addShare 39 = .ok (.aload_n 0, 1) := by decide +kernel
theorem dX3_addShare_40 : decode cX3_addShare 40 = .ok (.dup, 1) := by decide +kernel
theorem dX3_addShare_41 : decode cX3_addShare 41 = .ok (.getfield 25, 3) := by decide +kernel
theorem dX3_addShare_44 : decode cX3_addShare 44 = .ok (.iconst 1, 1) := by decide +kernel
theorem dX3_addShare_45 : decode cX3_addShare 45 = .ok (.iadd, 1) := by decide +kernel
theorem dX3_addShare_46 : decode cX3_addShare 46 = .ok (.putfield 25, 3) := by decide +kernel
theorem dX3_addShare_49 : decode cX3_addShare 49 = .ok (.return_, 1) := by decide +kernel
theorem dX3_shareAt_0 : decode cX3_shareAt 0 = .ok (.iload_n 1, 1) := by decide +kernel
theorem dX3_shareAt_1 : decode cX3_shareAt 1 = .ok (.iconst 0, 1) := by decide +kernel
theorem dX3_shareAt_2 : decode cX3_shareAt 2 = .ok (.aload_n 0, 1) := by decide +kernel
theorem dX3_shareAt_3 : decode cX3_shareAt 3 = .ok (.getfield 25, 3) := by decide +kernel
theorem dX3_shareAt_6 : decode cX3_shareAt 6 = .ok (.iconst 1, 1) := by decide +kernel
theorem dX3_shareAt_7 : decode cX3_shareAt 7 = .ok (.isub, 1) := by decide +kernel
theorem dX3_shareAt_8 : decode cX3_shareAt 8 = .ok (.invokestatic 35, 3) := by decide +kernel
theorem dX3_shareAt_11 : decode cX3_shareAt 11 = .ok (.ifCond .eq 12, 3) := by decide +kernel
theorem dX3_shareAt_14 : decode cX3_shareAt 14 = .ok (.aload_n 0, 1) := by decide +kernel
theorem dX3_shareAt_15 : decode cX3_shareAt 15 = .ok (.getfield 11, 3) := by decide +kernel
theorem dX3_shareAt_18 : decode cX3_shareAt 18 = .ok (.iload_n 1, 1) := by decide +kernel
theorem dX3_shareAt_19 : decode cX3_shareAt 19 = .ok (.aaload, 1) := by decide +kernel
theorem dX3_shareAt_20 : decode cX3_shareAt 20 = .ok (.goto 4, 3) := by decide +kernel
theorem dX3_shareAt_23 : decode cX3_shareAt 23 = .ok (.aconst_null, 1) := by decide +kernel
theorem dX3_shareAt_24 : decode cX3_shareAt 24 = .ok (.areturn, 1) := by decide +kernel
theorem dX3_hasNumber_0 : decode cX3_hasNumber 0 = .ok (.iload_n 1, 1) := by decide +kernel
theorem dX3_hasNumber_1 : decode cX3_hasNumber 1 = .ok (.iconst 0, 1) := by decide +kernel
theorem dX3_hasNumber_2 : decode cX3_hasNumber 2 = .ok (.aload_n 0, 1) := by decide +kernel
theorem dX3_hasNumber_3 : decode cX3_hasNumber 3 = .ok (.getfield 28, 3) := by decide +kernel
theorem dX3_hasNumber_6 : decode cX3_hasNumber 6 = .ok (.iconst 1, 1) := by decide +kernel
theorem dX3_hasNumber_7 : decode cX3_hasNumber 7 = .ok (.isub, 1) := by decide +kernel
theorem dX3_hasNumber_8 : decode cX3_hasNumber 8 = .ok (.invokestatic 35, 3) := by decide +kernel
theorem dX3_hasNumber_11 : decode cX3_hasNumber 11 = .ok (.ireturn, 1) := by decide +kernel
theorem dX3_pressOf_0 : decode cX3_pressOf 0 = .ok (.iconst 0, 1) := by decide +kernel
theorem dX3_pressOf_1 : decode cX3_pressOf 1 = .ok (.istore_n 2, 1) := by decide +kernel
theorem dX3_pressOf_2 : decode cX3_pressOf 2 = .ok (.iload_n 2, 1) := by decide +kernel
theorem dX3_pressOf_3 : decode cX3_pressOf 3 = .ok (.aload_n 0, 1) := by decide +kernel
theorem dX3_pressOf_4 : decode cX3_pressOf 4 = .ok (.getfield 25, 3) := by decide +kernel
theorem dX3_pressOf_7 : decode cX3_pressOf 7 = .ok (.if_icmp .ge 24, 3) := by decide +kernel
theorem dX3_pressOf_10 : decode cX3_pressOf 10 = .ok (.aload_n 0, 1) := by decide +kernel
theorem dX3_pressOf_11 : decode cX3_pressOf 11 = .ok (.getfield 11, 3) := by decide +kernel
theorem dX3_pressOf_14 : decode cX3_pressOf 14 = .ok (.iload_n 2, 1) := by decide +kernel
theorem dX3_pressOf_15 : decode cX3_pressOf 15 = .ok (.aaload, 1) := by decide +kernel
theorem dX3_pressOf_16 : decode cX3_pressOf 16 = .ok (.iload_n 1, 1) := by decide +kernel
theorem dX3_pressOf_17 : decode cX3_pressOf 17 = .ok (.invokevirtual 39, 3) := by decide +kernel
theorem dX3_pressOf_20 : decode cX3_pressOf 20 = .ok (.ifCond .eq 5, 3) := by decide +kernel
theorem dX3_pressOf_23 : decode cX3_pressOf 23 = .ok (.iload_n 2, 1) := by decide +kernel
theorem dX3_pressOf_24 : decode cX3_pressOf 24 = .ok (.ireturn, 1) := by decide +kernel
theorem dX3_pressOf_25 : decode cX3_pressOf 25 = .ok (.iinc 2 1, 3) := by decide +kernel
theorem dX3_pressOf_28 : decode cX3_pressOf 28 = .ok (.goto (-26), 3) := by decide +kernel
theorem dX3_pressOf_31 : decode cX3_pressOf 31 = .ok (.bipush (-4), 2) := by decide +kernel
theorem dX3_pressOf_33 : decode cX3_pressOf 33 = .ok (.ireturn, 1) := by decide +kernel
theorem dX3_isPrinted_0 : decode cX3_isPrinted 0 = .ok (.aload_n 0, 1) := by decide +kernel
theorem dX3_isPrinted_1 : decode cX3_isPrinted 1 = .ok (.aload_n 0, 1) := by decide +kernel
theorem dX3_isPrinted_2 : decode cX3_isPrinted 2 = .ok (.iload_n 1, 1) := by decide +kernel
theorem dX3_isPrinted_3 : decode cX3_isPrinted 3 = .ok (.invokevirtual 43, 3) := by decide +kernel
theorem dX3_isPrinted_6 : decode cX3_isPrinted 6 = .ok (.invokevirtual 47, 3) := by decide +kernel
theorem dX3_isPrinted_9 : decode cX3_isPrinted 9 = .ok (.astore_n 2, 1) := by decide +kernel
theorem dX3_isPrinted_10 : decode cX3_isPrinted 10 = .ok (.aload_n 2, 1) := by decide +kernel
theorem dX3_isPrinted_11 : decode cX3_isPrinted 11 = .ok (.ifnull 19, 3) := by decide +kernel
theorem dX3_isPrinted_14 : decode cX3_isPrinted 14 = .ok (.aload_n 2, 1) := by decide +kernel
theorem dX3_isPrinted_15 : decode cX3_isPrinted 15 = .ok (.iload_n 1, 1) := by decide +kernel
theorem dX3_isPrinted_16 : decode cX3_isPrinted 16 = .ok (.invokevirtual 51, 3) := by decide +kernel
theorem dX3_isPrinted_19 : decode cX3_isPrinted 19 = .ok (.aload_n 2, 1) := by decide +kernel
theorem dX3_isPrinted_20 : decode cX3_isPrinted 20 = .ok (.getfield 54, 3) := by decide +kernel
theorem dX3_isPrinted_23 : decode cX3_isPrinted 23 = .ok (.if_icmp .ge 7, 3) := by decide +kernel
theorem dX3_isPrinted_26 : decode cX3_isPrinted 26 = .ok (.iconst 1, 1) := by decide +kernel
theorem dX3_isPrinted_27 : decode cX3_isPrinted 27 = .ok (.goto 4, 3) := by decide +kernel
theorem dX3_isPrinted_30 : decode cX3_isPrinted 30 = .ok (.iconst 0, 1) := by decide +kernel
theorem dX3_isPrinted_31 : decode cX3_isPrinted 31 = .ok (.ireturn, 1) := by decide +kernel
theorem dX3_notesPrinted_0 : decode cX3_notesPrinted 0 = .ok (.iconst 0, 1) := by decide +kernel
theorem dX3_notesPrinted_1 : decode cX3_notesPrinted 1 = .ok (.istore_n 1, 1) := by decide +kernel
theorem dX3_notesPrinted_2 : decode cX3_notesPrinted 2 = .ok (.iconst 0, 1) := by decide +kernel
theorem dX3_notesPrinted_3 : decode cX3_notesPrinted 3 = .ok (.istore_n 2, 1) := by decide +kernel
theorem dX3_notesPrinted_4 : decode cX3_notesPrinted 4 = .ok (.iload_n 2, 1) := by decide +kernel
theorem dX3_notesPrinted_5 : decode cX3_notesPrinted 5 = .ok (.aload_n 0, 1) := by decide +kernel
theorem dX3_notesPrinted_6 : decode cX3_notesPrinted 6 = .ok (.getfield 25, 3) := by decide +kernel
theorem dX3_notesPrinted_9 : decode cX3_notesPrinted 9 = .ok (.if_icmp .ge 31, 3) := by decide +kernel
theorem dX3_notesPrinted_12 : decode cX3_notesPrinted 12 = .ok (.iload_n 1, 1) := by decide +kernel
theorem dX3_notesPrinted_13 : decode cX3_notesPrinted 13 = .ok (.aload_n 0, 1) := by decide +kernel
theorem dX3_notesPrinted_14 : decode cX3_notesPrinted 14 = .ok (.getfield 11, 3) := by decide +kernel
theorem dX3_notesPrinted_17 : decode cX3_notesPrinted 17 = .ok (.iload_n 2, 1) := by decide +kernel
theorem dX3_notesPrinted_18 : decode cX3_notesPrinted 18 = .ok (.aaload, 1) := by decide +kernel
theorem dX3_notesPrinted_19 : decode cX3_notesPrinted 19 = .ok (.getfield 54, 3) := by decide +kernel
theorem dX3_notesPrinted_22 : decode cX3_notesPrinted 22 = .ok (.aload_n 0, 1) := by decide +kernel
theorem dX3_notesPrinted_23 : decode cX3_notesPrinted 23 = .ok (.getfield 11, 3) := by decide +kernel
theorem dX3_notesPrinted_26 : decode cX3_notesPrinted 26 = .ok (.iload_n 2, 1) := by decide +kernel
theorem dX3_notesPrinted_27 : decode cX3_notesPrinted 27 = .ok (.aaload, 1) := by decide +kernel
theorem dX3_notesPrinted_28 : decode cX3_notesPrinted 28 = .ok (.getfield 57, 3) := by decide +kernel
theorem dX3_notesPrinted_31 : decode cX3_notesPrinted 31 = .ok (.imul, 1) := by decide +kernel
theorem dX3_notesPrinted_32 : decode cX3_notesPrinted 32 = .ok (.iadd, 1) := by decide +kernel
theorem dX3_notesPrinted_33 : decode cX3_notesPrinted 33 = .ok (.istore_n 1, 1) := by decide +kernel
theorem dX3_notesPrinted_34 : decode cX3_notesPrinted 34 = .ok (.iinc 2 1, 3) := by decide +kernel
theorem dX3_notesPrinted_37 : decode cX3_notesPrinted 37 = .ok (.goto (-33), 3) := by decide +kernel
theorem dX3_notesPrinted_40 : decode cX3_notesPrinted 40 = .ok (.iload_n 1, 1) := by decide +kernel
theorem dX3_notesPrinted_41 : decode cX3_notesPrinted 41 = .ok (.ireturn, 1) := by decide +kernel
theorem dX3_sheetsRun_0 : decode cX3_sheetsRun 0 = .ok (.iconst 0, 1) := by decide +kernel
theorem dX3_sheetsRun_1 : decode cX3_sheetsRun 1 = .ok (.istore_n 1, 1) := by decide +kernel
theorem dX3_sheetsRun_2 : decode cX3_sheetsRun 2 = .ok (.iconst 0, 1) := by decide +kernel
theorem dX3_sheetsRun_3 : decode cX3_sheetsRun 3 = .ok (.istore_n 2, 1) := by decide +kernel
theorem dX3_sheetsRun_4 : decode cX3_sheetsRun 4 = .ok (.iload_n 2, 1) := by decide +kernel
theorem dX3_sheetsRun_5 : decode cX3_sheetsRun 5 = .ok (.aload_n 0, 1) := by decide +kernel
theorem dX3_sheetsRun_6 : decode cX3_sheetsRun 6 = .ok (.getfield 25, 3) := by decide +kernel
theorem dX3_sheetsRun_9 : decode cX3_sheetsRun 9 = .ok (.if_icmp .ge 21, 3) := by decide +kernel
theorem dX3_sheetsRun_12 : decode cX3_sheetsRun 12 = .ok (.iload_n 1, 1) := by decide +kernel
theorem dX3_sheetsRun_13 : decode cX3_sheetsRun 13 = .ok (.aload_n 0, 1) := by decide +kernel
theorem dX3_sheetsRun_14 : decode cX3_sheetsRun 14 = .ok (.getfield 11, 3) := by decide +kernel
theorem dX3_sheetsRun_17 : decode cX3_sheetsRun 17 = .ok (.iload_n 2, 1) := by decide +kernel
theorem dX3_sheetsRun_18 : decode cX3_sheetsRun 18 = .ok (.aaload, 1) := by decide +kernel
theorem dX3_sheetsRun_19 : decode cX3_sheetsRun 19 = .ok (.getfield 54, 3) := by decide +kernel
theorem dX3_sheetsRun_22 : decode cX3_sheetsRun 22 = .ok (.iadd, 1) := by decide +kernel
theorem dX3_sheetsRun_23 : decode cX3_sheetsRun 23 = .ok (.istore_n 1, 1) := by decide +kernel
theorem dX3_sheetsRun_24 : decode cX3_sheetsRun 24 = .ok (.iinc 2 1, 3) := by decide +kernel
theorem dX3_sheetsRun_27 : decode cX3_sheetsRun 27 = .ok (.goto (-23), 3) := by decide +kernel
theorem dX3_sheetsRun_30 : decode cX3_sheetsRun 30 = .ok (.iload_n 1, 1) := by decide +kernel
theorem dX3_sheetsRun_31 : decode cX3_sheetsRun 31 = .ok (.ireturn, 1) := by decide +kernel
theorem dX3_sheetsLeft_0 : decode cX3_sheetsLeft 0 = .ok (.iconst 0, 1) := by decide +kernel
theorem dX3_sheetsLeft_1 : decode cX3_sheetsLeft 1 = .ok (.istore_n 1, 1) := by decide +kernel
theorem dX3_sheetsLeft_2 : decode cX3_sheetsLeft 2 = .ok (.iconst 0, 1) := by decide +kernel
theorem dX3_sheetsLeft_3 : decode cX3_sheetsLeft 3 = .ok (.istore_n 2, 1) := by decide +kernel
theorem dX3_sheetsLeft_4 : decode cX3_sheetsLeft 4 = .ok (.iload_n 2, 1) := by decide +kernel
theorem dX3_sheetsLeft_5 : decode cX3_sheetsLeft 5 = .ok (.aload_n 0, 1) := by decide +kernel
theorem dX3_sheetsLeft_6 : decode cX3_sheetsLeft 6 = .ok (.getfield 25, 3) := by decide +kernel
theorem dX3_sheetsLeft_9 : decode cX3_sheetsLeft 9 = .ok (.if_icmp .ge 21, 3) := by decide +kernel
theorem dX3_sheetsLeft_12 : decode cX3_sheetsLeft 12 = .ok (.iload_n 1, 1) := by decide +kernel
theorem dX3_sheetsLeft_13 : decode cX3_sheetsLeft 13 = .ok (.aload_n 0, 1) := by decide +kernel
theorem dX3_sheetsLeft_14 : decode cX3_sheetsLeft 14 = .ok (.getfield 11, 3) := by decide +kernel
theorem dX3_sheetsLeft_17 : decode cX3_sheetsLeft 17 = .ok (.iload_n 2, 1) := by decide +kernel
theorem dX3_sheetsLeft_18 : decode cX3_sheetsLeft 18 = .ok (.aaload, 1) := by decide +kernel
theorem dX3_sheetsLeft_19 : decode cX3_sheetsLeft 19 = .ok (.invokevirtual 60, 3) := by decide +kernel
theorem dX3_sheetsLeft_22 : decode cX3_sheetsLeft 22 = .ok (.iadd, 1) := by decide +kernel
theorem dX3_sheetsLeft_23 : decode cX3_sheetsLeft 23 = .ok (.istore_n 1, 1) := by decide +kernel
theorem dX3_sheetsLeft_24 : decode cX3_sheetsLeft 24 = .ok (.iinc 2 1, 3) := by decide +kernel
theorem dX3_sheetsLeft_27 : decode cX3_sheetsLeft 27 = .ok (.goto (-23), 3) := by decide +kernel
theorem dX3_sheetsLeft_30 : decode cX3_sheetsLeft 30 = .ok (.iload_n 1, 1) := by decide +kernel
theorem dX3_sheetsLeft_31 : decode cX3_sheetsLeft 31 = .ok (.ireturn, 1) := by decide +kernel
theorem dX3_packs_0 : decode cX3_packs 0 = .ok (.aload_n 0, 1) := by decide +kernel
theorem dX3_packs_1 : decode cX3_packs 1 = .ok (.getfield 28, 3) := by decide +kernel
theorem dX3_packs_4 : decode cX3_packs 4 = .ok (.bipush 10, 2) := by decide +kernel
theorem dX3_packs_6 : decode cX3_packs 6 = .ok (.iadd, 1) := by decide +kernel
theorem dX3_packs_7 : decode cX3_packs 7 = .ok (.iconst 1, 1) := by decide +kernel
theorem dX3_packs_8 : decode cX3_packs 8 = .ok (.isub, 1) := by decide +kernel
theorem dX3_packs_9 : decode cX3_packs 9 = .ok (.bipush 10, 2) := by decide +kernel
theorem dX3_packs_11 : decode cX3_packs 11 = .ok (.idiv, 1) := by decide +kernel
theorem dX3_packs_12 : decode cX3_packs 12 = .ok (.ireturn, 1) := by decide +kernel
theorem dX3_isWhole_0 : decode cX3_isWhole 0 = .ok (.bipush 10, 2) := by decide +kernel
theorem dX3_isWhole_2 : decode cX3_isWhole 2 = .ok (.iload_n 1, 1) := by decide +kernel
theorem dX3_isWhole_3 : decode cX3_isWhole 3 = .ok (.imul, 1) := by decide +kernel
theorem dX3_isWhole_4 : decode cX3_isWhole 4 = .ok (.bipush 10, 2) := by decide +kernel
theorem dX3_isWhole_6 : decode cX3_isWhole 6 = .ok (.iadd, 1) := by decide +kernel
theorem dX3_isWhole_7 : decode cX3_isWhole 7 = .ok (.aload_n 0, 1) := by decide +kernel
theorem dX3_isWhole_8 : decode cX3_isWhole 8 = .ok (.getfield 28, 3) := by decide +kernel
theorem dX3_isWhole_11 : decode cX3_isWhole 11 = .ok (.invokestatic 64, 3) := by decide +kernel
theorem dX3_isWhole_14 : decode cX3_isWhole 14 = .ok (.istore_n 2, 1) := by decide +kernel
theorem dX3_isWhole_15 : decode cX3_isWhole 15 = .ok (.bipush 10, 2) := by decide +kernel
theorem dX3_isWhole_17 : decode cX3_isWhole 17 = .ok (.iload_n 1, 1) := by decide +kernel
theorem dX3_isWhole_18 : decode cX3_isWhole 18 = .ok (.imul, 1) := by decide +kernel
theorem dX3_isWhole_19 : decode cX3_isWhole 19 = .ok (.istore_n 3, 1) := by decide +kernel
theorem dX3_isWhole_20 : decode cX3_isWhole 20 = .ok (.iload_n 3, 1) := by decide +kernel
theorem dX3_isWhole_21 : decode cX3_isWhole 21 = .ok (.iload_n 2, 1) := by decide +kernel
theorem dX3_isWhole_22 : decode cX3_isWhole 22 = .ok (.if_icmp .ge 19, 3) := by decide +kernel
theorem dX3_isWhole_25 : decode cX3_isWhole 25 = .ok (.aload_n 0, 1) := by decide +kernel
theorem dX3_isWhole_26 : decode cX3_isWhole 26 = .ok (.iload_n 3, 1) := by decide +kernel
theorem dX3_isWhole_27 : decode cX3_isWhole 27 = .ok (.invokevirtual 70, 3) := by decide +kernel
theorem dX3_isWhole_30 : decode cX3_isWhole 30 = .ok (.ifCond .ne 5, 3) := by decide +kernel
theorem dX3_isWhole_33 : decode cX3_isWhole 33 = .ok (.iconst 0, 1) := by decide +kernel
theorem dX3_isWhole_34 : decode cX3_isWhole 34 = .ok (.ireturn, 1) := by decide +kernel
theorem dX3_isWhole_35 : decode cX3_isWhole 35 = .ok (.iinc 3 1, 3) := by decide +kernel
theorem dX3_isWhole_38 : decode cX3_isWhole 38 = .ok (.goto (-18), 3) := by decide +kernel
theorem dX3_isWhole_41 : decode cX3_isWhole 41 = .ok (.iconst 1, 1) := by decide +kernel
theorem dX3_isWhole_42 : decode cX3_isWhole 42 = .ok (.ireturn, 1) := by decide +kernel
theorem dX3_wholePacks_0 : decode cX3_wholePacks 0 = .ok (.iconst 0, 1) := by decide +kernel
theorem dX3_wholePacks_1 : decode cX3_wholePacks 1 = .ok (.istore_n 1, 1) := by decide +kernel
theorem dX3_wholePacks_2 : decode cX3_wholePacks 2 = .ok (.iconst 0, 1) := by decide +kernel
theorem dX3_wholePacks_3 : decode cX3_wholePacks 3 = .ok (.istore_n 2, 1) := by decide +kernel
theorem dX3_wholePacks_4 : decode cX3_wholePacks 4 = .ok (.iload_n 2, 1) := by decide +kernel
theorem dX3_wholePacks_5 : decode cX3_wholePacks 5 = .ok (.aload_n 0, 1) := by decide +kernel
theorem dX3_wholePacks_6 : decode cX3_wholePacks 6 = .ok (.invokevirtual 73, 3) := by decide +kernel
theorem dX3_wholePacks_9 : decode cX3_wholePacks 9 = .ok (.if_icmp .ge 20, 3) := by decide +kernel
theorem dX3_wholePacks_12 : decode cX3_wholePacks 12 = .ok (.aload_n 0, 1) := by decide +kernel
theorem dX3_wholePacks_13 : decode cX3_wholePacks 13 = .ok (.iload_n 2, 1) := by decide +kernel
theorem dX3_wholePacks_14 : decode cX3_wholePacks 14 = .ok (.invokevirtual 76, 3) := by decide +kernel
theorem dX3_wholePacks_17 : decode cX3_wholePacks 17 = .ok (.ifCond .eq 6, 3) := by decide +kernel
theorem dX3_wholePacks_20 : decode cX3_wholePacks 20 = .ok (.iinc 1 1, 3) := by decide +kernel
theorem dX3_wholePacks_23 : decode cX3_wholePacks 23 = .ok (.iinc 2 1, 3) := by decide +kernel
theorem dX3_wholePacks_26 : decode cX3_wholePacks 26 = .ok (.goto (-22), 3) := by decide +kernel
theorem dX3_wholePacks_29 : decode cX3_wholePacks 29 = .ok (.iload_n 1, 1) := by decide +kernel
theorem dX3_wholePacks_30 : decode cX3_wholePacks 30 = .ok (.ireturn, 1) := by decide +kernel
