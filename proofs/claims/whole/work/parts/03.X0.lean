theorem dX0_init_0 : decode cX0_init 0 = .ok (.aload_n 0, 1) := by decide +kernel
theorem dX0_init_1 : decode cX0_init 1 = .ok (.invokespecial 3, 3) := by decide +kernel
theorem dX0_init_4 : decode cX0_init 4 = .ok (.aload_n 0, 1) := by decide +kernel
theorem dX0_init_5 : decode cX0_init 5 = .ok (.bipush 6, 2) := by decide +kernel
theorem dX0_init_7 : decode cX0_init 7 = .ok (.anewarray 9, 3) := by decide +kernel
theorem dX0_init_10 : decode cX0_init 10 = .ok (.putfield 11, 3) := by decide +kernel
theorem dX0_init_13 : decode cX0_init 13 = .ok (.aload_n 0, 1) := by decide +kernel
theorem dX0_init_14 : decode cX0_init 14 = .ok (.bipush 6, 2) := by decide +kernel
theorem dX0_init_16 : decode cX0_init 16 = .ok (.newarray .int, 2) := by decide +kernel
theorem dX0_init_18 : decode cX0_init 18 = .ok (.putfield 17, 3) := by decide +kernel
theorem dX0_init_21 : decode cX0_init 21 = .ok (.return_, 1) := by decide +kernel
theorem dX0_clear_0 : decode cX0_clear 0 = .ok (.aload_n 0, 1) := by decide +kernel
theorem dX0_clear_1 : decode cX0_clear 1 = .ok (.iconst 0, 1) := by decide +kernel
theorem dX0_clear_2 : decode cX0_clear 2 = .ok (.putfield 21, 3) := by decide +kernel
theorem dX0_clear_5 : decode cX0_clear 5 = .ok (.return_, 1) := by decide +kernel
theorem dX0_rememberRun_0 : decode cX0_rememberRun 0 = .ok (.aload_n 0, 1) := by decide +kernel
theorem dX0_rememberRun_1 : decode cX0_rememberRun 1 = .ok (.aload_n 1, 1) := by decide +kernel
theorem dX0_rememberRun_2 : decode cX0_rememberRun 2 = .ok (.iload_n 2, 1) := by decide +kernel
theorem dX0_rememberRun_3 : decode cX0_rememberRun 3 = .ok (.invokevirtual 25, 3) := by decide +kernel
theorem dX0_rememberRun_6 : decode cX0_rememberRun 6 = .ok (.return_, 1) := by decide +kernel
theorem dX0_rememberSpoiled_0 : decode cX0_rememberSpoiled 0 = .ok (.aload_n 0, 1) := by decide +kernel
theorem dX0_rememberSpoiled_1 : decode cX0_rememberSpoiled 1 = .ok (.aconst_null, 1) := by decide +kernel
theorem dX0_rememberSpoiled_2 : decode cX0_rememberSpoiled 2 = .ok (.iload_n 1, 1) := by decide +kernel
theorem dX0_rememberSpoiled_3 : decode cX0_rememberSpoiled 3 = .ok (.invokevirtual 25, 3) := by decide +kernel
theorem dX0_rememberSpoiled_6 : decode cX0_rememberSpoiled 6 = .ok (.return_, 1) := by decide +kernel
theorem dX0_remember_0 : decode cX0_remember 0 = .ok (.aload_n 0, 1) := by decide +kernel
theorem dX0_remember_1 : decode cX0_remember 1 = .ok (.getfield 21, 3) := by decide +kernel
theorem dX0_remember_4 : decode cX0_remember 4 = .ok (.bipush 6, 2) := by decide +kernel
theorem dX0_remember_6 : decode cX0_remember 6 = .ok (.if_icmp .lt 7, 3) := by decide +kernel
theorem dX0_remember_9 : decode cX0_remember 9 = .ok (.aload_n 0, 1) := by decide +kernel
theorem dX0_remember_10 : decode cX0_remember 10 = .ok (.invokevirtual 29, 3) := by decide +kernel
theorem dX0_remember_13 : decode cX0_remember 13 = .ok (.aload_n 0, 1) := by decide +kernel
theorem dX0_remember_14 : decode cX0_remember 14 = .ok (.getfield 11, 3) := by decide +kernel
theorem dX0_remember_17 : decode cX0_remember 17 = .ok (.aload_n 0, 1) := by decide +kernel
theorem dX0_remember_18 : decode cX0_remember 18 = .ok (.getfield 21, 3) := by decide +kernel
theorem dX0_remember_21 : decode cX0_remember 21 = .ok (.aload_n 1, 1) := by decide +kernel
theorem dX0_remember_22 : decode cX0_remember 22 = .ok (.aastore, 1) := by decide +kernel
theorem dX0_remember_23 : decode cX0_remember 23 = .ok (.aload_n 0, 1) := by decide +kernel
theorem dX0_remember_24 : decode cX0_remember 24 = .ok (.getfield 17, 3) := by decide +kernel
theorem dX0_remember_27 : decode cX0_remember 27 = .ok (.aload_n 0, 1) := by decide +kernel
theorem dX0_remember_28 : decode cX0_remember 28 = .ok (.getfield 21, 3) := by decide +kernel
theorem dX0_remember_31 : decode cX0_remember 31 = .ok (.iload_n 2, 1) := by decide +kernel
theorem dX0_remember_32 : decode cX0_remember 32 = .ok (.iastore, 1) := by decide +kernel
theorem dX0_remember_33 : decode cX0_remember 33 = .ok (.aload_n 0, 1) := by decide +kernel
theorem dX0_remember_34 : decode cX0_remember 34 = .ok (.dup, 1) := by decide +kernel
theorem dX0_remember_35 : decode cX0_remember 35 = .ok (.getfield 21, 3) := by decide +kernel
theorem dX0_remember_38 : decode cX0_remember 38 = .ok (.iconst 1, 1) := by decide +kernel
theorem dX0_remember_39 : decode cX0_remember 39 = .ok (.iadd, 1) := by decide +kernel
theorem dX0_remember_40 : decode cX0_remember 40 = .ok (.putfield 21, 3) := by decide +kernel
theorem dX0_remember_43 : decode cX0_remember 43 = .ok (.return_, 1) := by decide +kernel
theorem dX0_forgetOldest_0 : decode cX0_forgetOldest 0 = .ok (.iconst 1, 1) := by decide +kernel
theorem dX0_forgetOldest_1 : decode cX0_forgetOldest 1 = .ok (.istore_n 1, 1) := by decide +kernel
theorem dX0_forgetOldest_2 : decode cX0_forgetOldest 2 = .ok (.iload_n 1, 1) := by decide +kernel
theorem dX0_forgetOldest_3 : decode cX0_forgetOldest 3 = .ok (.bipush 6, 2) := by decide +kernel
theorem dX0_forgetOldest_5 : decode cX0_forgetOldest 5 = .ok (.if_icmp .ge 37, 3) := by decide +kernel
theorem dX0_forgetOldest_8 : decode cX0_forgetOldest 8 = .ok (.aload_n 0, 1) := by decide +kernel
theorem dX0_forgetOldest_9 : decode cX0_forgetOldest 9 = .ok (.getfield 11, 3) := by decide +kernel
theorem dX0_forgetOldest_12 : decode cX0_forgetOldest 12 = .ok (.iload_n 1, 1) := by decide +kernel
theorem dX0_forgetOldest_13 : decode cX0_forgetOldest 13 = .ok (.iconst 1, 1) := by decide +kernel
theorem dX0_forgetOldest_14 : decode cX0_forgetOldest 14 = .ok (.isub, 1) := by decide +kernel
theorem dX0_forgetOldest_15 : decode cX0_forgetOldest 15 = .ok (.aload_n 0, 1) := by decide +kernel
theorem dX0_forgetOldest_16 : decode cX0_forgetOldest 16 = .ok (.getfield 11, 3) := by decide +kernel
theorem dX0_forgetOldest_19 : decode cX0_forgetOldest 19 = .ok (.iload_n 1, 1) := by decide +kernel
theorem dX0_forgetOldest_20 : decode cX0_forgetOldest 20 = .ok (.aaload, 1) := by decide +kernel
theorem dX0_forgetOldest_21 : decode cX0_forgetOldest 21 = .ok (.aastore, 1) := by decide +kernel
theorem dX0_forgetOldest_22 : decode cX0_forgetOldest 22 = .ok (.aload_n 0, 1) := by decide +kernel
theorem dX0_forgetOldest_23 : decode cX0_forgetOldest 23 = .ok (.getfield 17, 3) := by decide +kernel
theorem dX0_forgetOldest_26 : decode cX0_forgetOldest 26 = .ok (.iload_n 1, 1) := by decide +kernel
theorem dX0_forgetOldest_27 : decode cX0_forgetOldest 27 = .ok (.iconst 1, 1) := by decide +kernel
theorem dX0_forgetOldest_28 : decode cX0_forgetOldest 28 = .ok (.isub, 1) := by decide +kernel
theorem dX0_forgetOldest_29 : decode cX0_forgetOldest 29 = .ok (.aload_n 0, 1) := by decide +kernel
theorem dX0_forgetOldest_30 : decode cX0_forgetOldest 30 = .ok (.getfield 17, 3) := by decide +kernel
theorem dX0_forgetOldest_33 : decode cX0_forgetOldest 33 = .ok (.iload_n 1, 1) := by decide +kernel
theorem dX0_forgetOldest_34 : decode cX0_forgetOldest 34 = .ok (.iaload, 1) := by decide +kernel
theorem dX0_forgetOldest_35 : decode cX0_forgetOldest 35 = .ok (.iastore, 1) := by decide +kernel
theorem dX0_forgetOldest_36 : decode cX0_forgetOldest 36 = .ok (.iinc 1 1, 3) := by decide +kernel
theorem dX0_forgetOldest_39 : decode cX0_forgetOldest 39 = .ok (.goto (-37), 3) := by decide +kernel
theorem dX0_forgetOldest_42 : decode cX0_forgetOldest 42 = .ok (.aload_n 0, 1) := by decide +kernel
theorem dX0_forgetOldest_43 : decode cX0_forgetOldest 43 = .ok (.iconst 5, 1) := by decide +kernel
theorem dX0_forgetOldest_44 : decode cX0_forgetOldest 44 = .ok (.putfield 21, 3) := by decide +kernel
theorem dX0_forgetOldest_47 : decode cX0_forgetOldest 47 = .ok (.return_, 1) := by decide +kernel
theorem dX0_latestShare_0 : decode cX0_latestShare 0 = .ok (.aload_n 0, 1) := by decide +kernel
theorem dX0_latestShare_1 : decode cX0_latestShare 1 = .ok (.getfield 21, 3) := by decide +kernel
theorem dX0_latestShare_4 : decode cX0_latestShare 4 = .ok (.iconst 1, 1) := by decide +kernel
theorem dX0_latestShare_5 : decode cX0_latestShare 5 = .ok (.if_icmp .ge 7, 3) := by decide +kernel
theorem dX0_latestShare_8 : decode cX0_latestShare 8 = .ok (.aconst_null, 1) := by decide +kernel
theorem dX0_latestShare_9 : decode cX0_latestShare 9 = .ok (.goto 14, 3) := by decide +kernel
theorem dX0_latestShare_12 : decode cX0_latestShare 12 = .ok (.aload_n 0, 1) := by decide +kernel
theorem dX0_latestShare_13 : decode cX0_latestShare 13 = .ok (.getfield 11, 3) := by decide +kernel
theorem dX0_latestShare_16 : decode cX0_latestShare 16 = .ok (.aload_n 0, 1) := by decide +kernel
theorem dX0_latestShare_17 : decode cX0_latestShare 17 = .ok (.getfield 21, 3) := by decide +kernel
theorem dX0_latestShare_20 : decode cX0_latestShare 20 = .ok (.iconst 1, 1) := by decide +kernel
theorem dX0_latestShare_21 : decode cX0_latestShare 21 = .ok (.isub, 1) := by decide +kernel
theorem dX0_latestShare_22 : decode cX0_latestShare 22 = .ok (.aaload, 1) := by decide +kernel
theorem dX0_latestShare_23 : decode cX0_latestShare 23 = .ok (.areturn, 1) := by decide +kernel
theorem dX0_latestAmount_0 : decode cX0_latestAmount 0 = .ok (.aload_n 0, 1) := by decide +kernel
theorem dX0_latestAmount_1 : decode cX0_latestAmount 1 = .ok (.getfield 21, 3) := by decide +kernel
theorem dX0_latestAmount_4 : decode cX0_latestAmount 4 = .ok (.iconst 1, 1) := by decide +kernel
theorem dX0_latestAmount_5 : decode cX0_latestAmount 5 = .ok (.if_icmp .ge 7, 3) := by decide +kernel
theorem dX0_latestAmount_8 : decode cX0_latestAmount 8 = .ok (.iconst 0, 1) := by decide +kernel
theorem dX0_latestAmount_9 : decode cX0_latestAmount 9 = .ok (.goto 14, 3) := by decide +kernel
theorem dX0_latestAmount_12 : decode cX0_latestAmount 12 = .ok (.aload_n 0, 1) := by decide +kernel
theorem dX0_latestAmount_13 : decode cX0_latestAmount 13 = .ok (.getfield 17, 3) := by decide +kernel
theorem dX0_latestAmount_16 : decode cX0_latestAmount 16 = .ok (.aload_n 0, 1) := by decide +kernel
theorem dX0_latestAmount_17 : decode cX0_latestAmount 17 = .ok (.getfield 21, 3) := by decide +kernel
theorem dX0_latestAmount_20 : decode cX0_latestAmount 20 = .ok (.iconst 1, 1) := by decide +kernel
theorem dX0_latestAmount_21 : decode cX0_latestAmount 21 = .ok (.isub, 1) := by decide +kernel
theorem dX0_latestAmount_22 : decode cX0_latestAmount 22 = .ok (.iaload, 1) := by decide +kernel
theorem dX0_latestAmount_23 : decode cX0_latestAmount 23 = .ok (.ireturn, 1) := by decide +kernel
theorem dX0_forgetLatest_0 : decode cX0_forgetLatest 0 = .ok (.aload_n 0, 1) := by decide +kernel
theorem dX0_forgetLatest_1 : decode cX0_forgetLatest 1 = .ok (.aload_n 0, 1) := by decide +kernel
theorem dX0_forgetLatest_2 : decode cX0_forgetLatest 2 = .ok (.getfield 21, 3) := by decide +kernel
theorem dX0_forgetLatest_5 : decode cX0_forgetLatest 5 = .ok (.iconst 1, 1) := by decide +kernel
theorem dX0_forgetLatest_6 : decode cX0_forgetLatest 6 = .ok (.isub, 1) := by decide +kernel
theorem dX0_forgetLatest_7 : decode cX0_forgetLatest 7 = .ok (.iconst 0, 1) := by decide +kernel
theorem dX0_forgetLatest_8 : decode cX0_forgetLatest 8 = .ok (.invokestatic 32, 3) := by decide +kernel
theorem dX0_forgetLatest_11 : decode cX0_forgetLatest 11 = .ok (.putfield 21, 3) := by decide +kernel
theorem dX0_forgetLatest_14 : decode cX0_forgetLatest 14 = .ok (.return_, 1) := by decide +kernel
