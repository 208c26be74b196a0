theorem dX8_init_0 : decode cX8_init 0 = .ok (.aload_n 0, 1) := by decide +kernel
theorem dX8_init_1 : decode cX8_init 1 = .ok (.invokespecial 1, 3) := by decide +kernel
theorem dX8_init_4 : decode cX8_init 4 = .ok (.aload_n 0, 1) := by decide +kernel
theorem dX8_init_5 : decode cX8_init 5 = .ok (.sipush 200, 3) := by decide +kernel
theorem dX8_init_8 : decode cX8_init 8 = .ok (.newarray .int, 2) := by decide +kernel
theorem dX8_init_10 : decode cX8_init 10 = .ok (.putfield 7, 3) := by decide +kernel
theorem dX8_init_13 : decode cX8_init 13 = .ok (.aload_n 0, 1) := by decide +kernel
theorem dX8_init_14 : decode cX8_init 14 = .ok (.bipush 25, 2) := by decide +kernel
theorem dX8_init_16 : decode cX8_init 16 = .ok (.newarray .int, 2) := by decide +kernel
theorem dX8_init_18 : decode cX8_init 18 = .ok (.putfield 13, 3) := by decide +kernel
theorem dX8_init_21 : decode cX8_init 21 = .ok (.aload_n 0, 1) := by decide +kernel
theorem dX8_init_22 : decode cX8_init 22 = .ok (.bipush 25, 2) := by decide +kernel
theorem dX8_init_24 : decode cX8_init 24 = .ok (.newarray .int, 2) := by decide +kernel
theorem dX8_init_26 : decode cX8_init 26 = .ok (.putfield 16, 3) := by decide +kernel
theorem dX8_init_29 : decode cX8_init 29 = .ok (.aload_n 0, 1) := by decide +kernel
theorem dX8_init_30 : decode cX8_init 30 = .ok (.bipush 112, 2) := by decide +kernel
theorem dX8_init_32 : decode cX8_init 32 = .ok (.newarray .int, 2) := by decide +kernel
theorem dX8_init_34 : decode cX8_init 34 = .ok (.putfield 19, 3) := by decide +kernel
theorem dX8_init_37 : decode cX8_init 37 = .ok (.aload_n 0, 1) := by decide +kernel
theorem dX8_init_38 : decode cX8_init 38 = .ok (.sipush 672, 3) := by decide +kernel
theorem dX8_init_41 : decode cX8_init 41 = .ok (.newarray .int, 2) := by decide +kernel
theorem dX8_init_43 : decode cX8_init 43 = .ok (.putfield 22, 3) := by decide +kernel
theorem dX8_init_46 : decode cX8_init 46 = .ok (.aload_n 0, 1) := by decide +kernel
theorem dX8_init_47 : decode cX8_init 47 = .ok (.getfield 13, 3) := by decide +kernel
theorem dX8_init_50 : decode cX8_init 50 = .ok (.iconst 0, 1) := by decide +kernel
theorem dX8_init_51 : decode cX8_init 51 = .ok (.iconst 4, 1) := by decide +kernel
theorem dX8_init_52 : decode cX8_init 52 = .ok (.iastore, 1) := by decide +kernel
theorem dX8_init_53 : decode cX8_init 53 = .ok (.aload_n 0, 1) := by decide +kernel
theorem dX8_init_54 : decode cX8_init 54 = .ok (.getfield 13, 3) := by decide +kernel
theorem dX8_init_57 : decode cX8_init 57 = .ok (.iconst 1, 1) := by decide +kernel
theorem dX8_init_58 : decode cX8_init 58 = .ok (.iconst 2, 1) := by decide +kernel
theorem dX8_init_59 : decode cX8_init 59 = .ok (.iastore, 1) := by decide +kernel
theorem dX8_init_60 : decode cX8_init 60 = .ok (.aload_n 0, 1) := by decide +kernel
theorem dX8_init_61 : decode cX8_init 61 = .ok (.iconst 1, 1) := by decide +kernel
theorem dX8_init_62 : decode cX8_init 62 = .ok (.iconst 0, 1) := by decide +kernel
theorem dX8_init_63 : decode cX8_init 63 = .ok (.bipush 10, 2) := by decide +kernel
theorem dX8_init_65 : decode cX8_init 65 = .ok (.iconst 5, 1) := by decide +kernel
theorem dX8_init_66 : decode cX8_init 66 = .ok (.invokevirtual 25, 3) := by decide +kernel
theorem dX8_init_69 : decode cX8_init 69 = .ok (.aload_n 0, 1) := by decide +kernel
theorem dX8_init_70 : decode cX8_init 70 = .ok (.iconst 3, 1) := by decide +kernel
theorem dX8_init_71 : decode cX8_init 71 = .ok (.iconst 1, 1) := by decide +kernel
theorem dX8_init_72 : decode cX8_init 72 = .ok (.iconst 3, 1) := by decide +kernel
theorem dX8_init_73 : decode cX8_init 73 = .ok (.bipush 9, 2) := by decide +kernel
theorem dX8_init_75 : decode cX8_init 75 = .ok (.invokevirtual 25, 3) := by decide +kernel
theorem dX8_init_78 : decode cX8_init 78 = .ok (.aload_n 0, 1) := by decide +kernel
theorem dX8_init_79 : decode cX8_init 79 = .ok (.iconst 5, 1) := by decide +kernel
theorem dX8_init_80 : decode cX8_init 80 = .ok (.iconst 2, 1) := by decide +kernel
theorem dX8_init_81 : decode cX8_init 81 = .ok (.bipush 6, 2) := by decide +kernel
theorem dX8_init_83 : decode cX8_init 83 = .ok (.iconst 0, 1) := by decide +kernel
theorem dX8_init_84 : decode cX8_init 84 = .ok (.invokevirtual 25, 3) := by decide +kernel
theorem dX8_init_87 : decode cX8_init 87 = .ok (.aload_n 0, 1) := by decide +kernel
theorem dX8_init_88 : decode cX8_init 88 = .ok (.getfield 13, 3) := by decide +kernel
theorem dX8_init_91 : decode cX8_init 91 = .ok (.bipush 22, 2) := by decide +kernel
theorem dX8_init_93 : decode cX8_init 93 = .ok (.iconst 2, 1) := by decide +kernel
theorem dX8_init_94 : decode cX8_init 94 = .ok (.iastore, 1) := by decide +kernel
theorem dX8_init_95 : decode cX8_init 95 = .ok (.aload_n 0, 1) := by decide +kernel
theorem dX8_init_96 : decode cX8_init 96 = .ok (.getfield 13, 3) := by decide +kernel
theorem dX8_init_99 : decode cX8_init 99 = .ok (.bipush 24, 2) := by decide +kernel
theorem dX8_init_101 : decode cX8_init 101 = .ok (.bipush 12, 2) := by decide +kernel
theorem dX8_init_103 : decode cX8_init 103 = .ok (.iastore, 1) := by decide +kernel
theorem dX8_init_104 : decode cX8_init 104 = .ok (.return_, 1) := by decide +kernel
theorem dX8_adds_0 : decode cX8_adds 0 = .ok (.iconst 4, 1) := by decide +kernel
theorem dX8_adds_1 : decode cX8_adds 1 = .ok (.bipush 6, 2) := by decide +kernel
theorem dX8_adds_3 : decode cX8_adds 3 = .ok (.aload_n 0, 1) := by decide +kernel
theorem dX8_adds_4 : decode cX8_adds 4 = .ok (.getfield 13, 3) := by decide +kernel
theorem dX8_adds_7 : decode cX8_adds 7 = .ok (.bipush 23, 2) := by decide +kernel
theorem dX8_adds_9 : decode cX8_adds 9 = .ok (.iaload, 1) := by decide +kernel
theorem dX8_adds_10 : decode cX8_adds 10 = .ok (.imul, 1) := by decide +kernel
theorem dX8_adds_11 : decode cX8_adds 11 = .ok (.iadd, 1) := by decide +kernel
theorem dX8_adds_12 : decode cX8_adds 12 = .ok (.istore 5, 2) := by decide +kernel
theorem dX8_adds_14 : decode cX8_adds 14 = .ok (.aload_n 0, 1) := by decide +kernel
theorem dX8_adds_15 : decode cX8_adds 15 = .ok (.getfield 13, 3) := by decide +kernel
theorem dX8_adds_18 : decode cX8_adds 18 = .ok (.iload 5, 2) := by decide +kernel
theorem dX8_adds_20 : decode cX8_adds 20 = .ok (.iload_n 1, 1) := by decide +kernel
theorem dX8_adds_21 : decode cX8_adds 21 = .ok (.iastore, 1) := by decide +kernel
theorem dX8_adds_22 : decode cX8_adds 22 = .ok (.aload_n 0, 1) := by decide +kernel
theorem dX8_adds_23 : decode cX8_adds 23 = .ok (.getfield 13, 3) := by decide +kernel
theorem dX8_adds_26 : decode cX8_adds 26 = .ok (.iload 5, 2) := by decide +kernel
theorem dX8_adds_28 : decode cX8_adds 28 = .ok (.iconst 1, 1) := by decide +kernel
theorem dX8_adds_29 : decode cX8_adds 29 = .ok (.iadd, 1) := by decide +kernel
theorem dX8_adds_30 : decode cX8_adds 30 = .ok (.iload_n 2, 1) := by decide +kernel
theorem dX8_adds_31 : decode cX8_adds 31 = .ok (.iastore, 1) := by decide +kernel
theorem dX8_adds_32 : decode cX8_adds 32 = .ok (.aload_n 0, 1) := by decide +kernel
theorem dX8_adds_33 : decode cX8_adds 33 = .ok (.getfield 13, 3) := by decide +kernel
theorem dX8_adds_36 : decode cX8_adds 36 = .ok (.iload 5, 2) := by decide +kernel
theorem dX8_adds_38 : decode cX8_adds 38 = .ok (.iconst 2, 1) := by decide +kernel
theorem dX8_adds_39 : decode cX8_adds 39 = .ok (.iadd, 1) := by decide +kernel
theorem dX8_adds_40 : decode cX8_adds 40 = .ok (.iload_n 3, 1) := by decide +kernel
theorem dX8_adds_41 : decode cX8_adds 41 = .ok (.iastore, 1) := by decide +kernel
theorem dX8_adds_42 : decode cX8_adds 42 = .ok (.aload_n 0, 1) := by decide +kernel
theorem dX8_adds_43 : decode cX8_adds 43 = .ok (.getfield 13, 3) := by decide +kernel
theorem dX8_adds_46 : decode cX8_adds 46 = .ok (.iload 5, 2) := by decide +kernel
theorem dX8_adds_48 : decode cX8_adds 48 = .ok (.iconst 3, 1) := by decide +kernel
theorem dX8_adds_49 : decode cX8_adds 49 = .ok (.iadd, 1) := by decide +kernel
theorem dX8_adds_50 : decode cX8_adds 50 = .ok (.iload 4, 2) := by decide +kernel
theorem dX8_adds_52 : decode cX8_adds 52 = .ok (.iastore, 1) := by decide +kernel
theorem dX8_adds_53 : decode cX8_adds 53 = .ok (.aload_n 0, 1) := by decide +kernel
theorem dX8_adds_54 : decode cX8_adds 54 = .ok (.getfield 13, 3) := by decide +kernel
theorem dX8_adds_57 : decode cX8_adds 57 = .ok (.bipush 23, 2) := by decide +kernel
theorem dX8_adds_59 : decode cX8_adds 59 = .ok (.dup2, 1) := by decide +kernel
theorem dX8_adds_60 : decode cX8_adds 60 = .ok (.iaload, 1) := by decide +kernel
theorem dX8_adds_61 : decode cX8_adds 61 = .ok (.iconst 1, 1) := by decide +kernel
theorem dX8_adds_62 : decode cX8_adds 62 = .ok (.iadd, 1) := by decide +kernel
theorem dX8_adds_63 : decode cX8_adds 63 = .ok (.iastore, 1) := by decide +kernel
theorem dX8_adds_64 : decode cX8_adds 64 = .ok (.return_, 1) := by decide +kernel
theorem dX8_in_0 : decode cX8_in 0 = .ok (.lload_n 0, 1) := by decide +kernel
theorem dX8_in_1 : decode cX8_in 1 = .ok (.lload_n 2, 1) := by decide +kernel
theorem dX8_in_2 : decode cX8_in 2 = .ok (.lcmp, 1) := by decide +kernel
theorem dX8_in_3 : decode cX8_in 3 = .ok (.ifCond .lt 14, 3) := by decide +kernel
theorem dX8_in_6 : decode cX8_in 6 = .ok (.lload_n 0, 1) := by decide +kernel
theorem dX8_in_7 : decode cX8_in 7 = .ok (.lload 4, 2) := by decide +kernel
theorem dX8_in_9 : decode cX8_in 9 = .ok (.lcmp, 1) := by decide +kernel
theorem dX8_in_10 : decode cX8_in 10 = .ok (.ifCond .gt 7, 3) := by decide +kernel
theorem dX8_in_13 : decode cX8_in 13 = .ok (.iconst 1, 1) := by decide +kernel
theorem dX8_in_14 : decode cX8_in 14 = .ok (.goto 4, 3) := by decide +kernel
theorem dX8_in_17 : decode cX8_in 17 = .ok (.iconst 0, 1) := by decide +kernel
theorem dX8_in_18 : decode cX8_in 18 = .ok (.ireturn, 1) := by decide +kernel
theorem dX8_write_0 : decode cX8_write 0 = .ok (.iload_n 1, 1) := by decide +kernel
theorem dX8_write_1 : decode cX8_write 1 = .ok (.i2l, 1) := by decide +kernel
theorem dX8_write_2 : decode cX8_write 2 = .ok (.ldc2_w 29, 3) := by decide +kernel
theorem dX8_write_5 : decode cX8_write 5 = .ok (.ldc2_w 31, 3) := by decide +kernel
theorem dX8_write_8 : decode cX8_write 8 = .ok (.invokestatic 33, 3) := by decide +kernel
theorem dX8_write_11 : decode cX8_write 11 = .ok (.ifCond .ne 5, 3) := by decide +kernel
theorem dX8_write_14 : decode cX8_write 14 = .ok (.iconst (-1), 1) := by decide +kernel
theorem dX8_write_15 : decode cX8_write 15 = .ok (.ireturn, 1) := by decide +kernel
theorem dX8_write_16 : decode cX8_write 16 = .ok (.aload_n 0, 1) := by decide +kernel
theorem dX8_write_17 : decode cX8_write 17 = .ok (.getfield 37, 3) := by decide +kernel
theorem dX8_write_20 : decode cX8_write 20 = .ok (.sipush 200, 3) := by decide +kernel
theorem dX8_write_23 : decode cX8_write 23 = .ok (.if_icmp .ne 6, 3) := by decide +kernel
theorem dX8_write_26 : decode cX8_write 26 = .ok (.bipush (-3), 2) := by decide +kernel
theorem dX8_write_28 : decode cX8_write 28 = .ok (.ireturn, 1) := by decide +kernel
theorem dX8_write_29 : decode cX8_write 29 = .ok (.aload_n 0, 1) := by decide +kernel
theorem dX8_write_30 : decode cX8_write 30 = .ok (.getfield 7, 3) := by decide +kernel
theorem dX8_write_33 : decode cX8_write 33 = .ok (.aload_n 0, 1) := by decide +kernel
theorem dX8_write_34 : decode cX8_write 34 = .ok (.getfield 37, 3) := by decide +kernel
theorem dX8_write_37 : decode cX8_write 37 = .ok (.iload_n 1, 1) := by decide +kernel
theorem dX8_write_38 : decode cX8_write 38 = .ok (.iastore, 1) := by decide +kernel
theorem dX8_write_39 : decode cX8_write 39 = .ok (.aload_n 0, 1) := by decide +kernel
theorem dX8_write_40 : decode cX8_write 40 = .ok (.dup, 1) := by decide +kernel
theorem dX8_write_41 : decode cX8_write 41 = .ok (.getfield 37, 3) := by decide +kernel
theorem dX8_write_44 : decode cX8_write 44 = .ok (.iconst 1, 1) := by decide +kernel
theorem dX8_write_45 : decode cX8_write 45 = .ok (.iadd, 1) := by decide +kernel
theorem dX8_write_46 : decode cX8_write 46 = .ok (.putfield 37, 3) := by decide +kernel
theorem dX8_write_49 : decode cX8_write 49 = .ok (.aload_n 0, 1) := by decide +kernel
theorem dX8_write_50 : decode cX8_write 50 = .ok (.getfield 37, 3) := by decide +kernel
theorem dX8_write_53 : decode cX8_write 53 = .ok (.ireturn, 1) := by decide +kernel
theorem dX8_wipe_0 : decode cX8_wipe 0 = .ok (.aload_n 0, 1) := by decide +kernel
theorem dX8_wipe_1 : decode cX8_wipe 1 = .ok (.getfield 37, 3) := by decide +kernel
theorem dX8_wipe_4 : decode cX8_wipe 4 = .ok (.istore_n 1, 1) := by decide +kernel
theorem dX8_wipe_5 : decode cX8_wipe 5 = .ok (.aload_n 0, 1) := by decide +kernel
theorem dX8_wipe_6 : decode cX8_wipe 6 = .ok (.iconst 0, 1) := by decide +kernel
theorem dX8_wipe_7 : decode cX8_wipe 7 = .ok (.putfield 37, 3) := by decide +kernel
theorem dX8_wipe_10 : decode cX8_wipe 10 = .ok (.iload_n 1, 1) := by decide +kernel
theorem dX8_wipe_11 : decode cX8_wipe 11 = .ok (.ireturn, 1) := by decide +kernel
theorem dX8_byteAt_0 : decode cX8_byteAt 0 = .ok (.iload_n 1, 1) := by decide +kernel
theorem dX8_byteAt_1 : decode cX8_byteAt 1 = .ok (.aload_n 0, 1) := by decide +kernel
theorem dX8_byteAt_2 : decode cX8_byteAt 2 = .ok (.getfield 37, 3) := by decide +kernel
theorem dX8_byteAt_5 : decode cX8_byteAt 5 = .ok (.if_icmp .ge 12, 3) := by decide +kernel
theorem dX8_byteAt_8 : decode cX8_byteAt 8 = .ok (.aload_n 0, 1) := by decide +kernel
theorem dX8_byteAt_9 : decode cX8_byteAt 9 = .ok (.getfield 7, 3) := by decide +kernel
theorem dX8_byteAt_12 : decode cX8_byteAt 12 = .ok (.iload_n 1, 1) := by decide +kernel
theorem dX8_byteAt_13 : decode cX8_byteAt 13 = .ok (.iaload, 1) := by decide +kernel
theorem dX8_byteAt_14 : decode cX8_byteAt 14 = .ok (.goto 4, 3) := by decide +kernel
theorem dX8_byteAt_17 : decode cX8_byteAt 17 = .ok (.iconst 0, 1) := by decide +kernel
theorem dX8_byteAt_18 : decode cX8_byteAt 18 = .ok (.ireturn, 1) := by decide +kernel
theorem dX8_gone_0 : decode cX8_gone 0 = .ok (.aload_n 0, 1) := by decide +kernel
theorem dX8_gone_1 : decode cX8_gone 1 = .ok (.aload_n 0, 1) := by decide +kernel
theorem dX8_gone_2 : decode cX8_gone 2 = .ok (.getfield 41, 3) := by decide +kernel
theorem dX8_gone_5 : decode cX8_gone 5 = .ok (.invokevirtual 44, 3) := by decide +kernel
theorem dX8_gone_8 : decode cX8_gone 8 = .ok (.iload_n 1, 1) := by decide +kernel
theorem dX8_gone_9 : decode cX8_gone 9 = .ok (.if_icmp .ne 7, 3) := by decide +kernel
theorem dX8_gone_12 : decode cX8_gone 12 = .ok (.iconst 1, 1) := by decide +kernel
theorem dX8_gone_13 : decode cX8_gone 13 = .ok (.goto 4, 3) := by decide +kernel
theorem dX8_gone_16 : decode cX8_gone 16 = .ok (.iconst 0, 1) := by decide +kernel
theorem dX8_gone_17 : decode cX8_gone 17 = .ok (.istore_n 2, 1) := by decide +kernel
theorem dX8_gone_18 : decode cX8_gone 18 = .ok (.aload_n 0, 1) := by decide +kernel
theorem dX8_gone_19 : decode cX8_gone 19 = .ok (.dup, 1) := by decide +kernel
theorem dX8_gone_20 : decode cX8_gone 20 = .ok (.getfield 41, 3) := by decide +kernel
theorem dX8_gone_23 : decode cX8_gone 23 = .ok (.iconst 1, 1) := by decide +kernel
theorem dX8_gone_24 : decode cX8_gone 24 = .ok (.iadd, 1) := by decide +kernel
theorem dX8_gone_25 : decode cX8_gone 25 = .ok (.putfield 41, 3) := by decide +kernel
theorem dX8_gone_28 : decode cX8_gone 28 = .ok (.iload_n 2, 1) := by decide +kernel
theorem dX8_gone_29 : decode cX8_gone 29 = .ok (.ireturn, 1) := by decide +kernel
theorem dX8_number2_0 : decode cX8_number2 0 = .ok (.iconst 0, 1) := by decide +kernel
theorem dX8_number2_1 : decode cX8_number2 1 = .ok (.istore 4, 2) := by decide +kernel
theorem dX8_number2_3 : decode cX8_number2 3 = .ok (.iconst 0, 1) := by decide +kernel
theorem dX8_number2_4 : decode cX8_number2 4 = .ok (.istore 5, 2) := by decide +kernel
theorem dX8_number2_6 : decode cX8_number2 6 = .ok (.iload 5, 2) := by decide +kernel
theorem dX8_number2_8 : decode cX8_number2 8 = .ok (.iconst 2, 1) := by decide +kernel
theorem dX8_number2_9 : decode cX8_number2 9 = .ok (.if_icmp .ge 59, 3) := by decide +kernel
theorem dX8_number2_12 : decode cX8_number2 12 = .ok (.aload_n 0, 1) := by decide +kernel
theorem dX8_number2_13 : decode cX8_number2 13 = .ok (.aload_n 0, 1) := by decide +kernel
theorem dX8_number2_14 : decode cX8_number2 14 = .ok (.getfield 41, 3) := by decide +kernel
theorem dX8_number2_17 : decode cX8_number2 17 = .ok (.invokevirtual 44, 3) := by decide +kernel
theorem dX8_number2_20 : decode cX8_number2 20 = .ok (.i2l, 1) := by decide +kernel
theorem dX8_number2_21 : decode cX8_number2 21 = .ok (.ldc2_w 48, 3) := by decide +kernel
theorem dX8_number2_24 : decode cX8_number2 24 = .ok (.ldc2_w 50, 3) := by decide +kernel
theorem dX8_number2_27 : decode cX8_number2 27 = .ok (.invokestatic 33, 3) := by decide +kernel
theorem dX8_number2_30 : decode cX8_number2 30 = .ok (.ifCond .eq 38, 3) := by decide +kernel
theorem dX8_number2_33 : decode cX8_number2 33 = .ok (.bipush 10, 2) := by decide +kernel
theorem dX8_number2_35 : decode cX8_number2 35 = .ok (.iload 4, 2) := by decide +kernel
theorem dX8_number2_37 : decode cX8_number2 37 = .ok (.imul, 1) := by decide +kernel
theorem dX8_number2_38 : decode cX8_number2 38 = .ok (.aload_n 0, 1) := by decide +kernel
theorem dX8_number2_39 : decode cX8_number2 39 = .ok (.aload_n 0, 1) := by decide +kernel
theorem dX8_number2_40 : decode cX8_number2 40 = .ok (.getfield 41, 3) := by decide +kernel
theorem dX8_number2_43 : decode cX8_number2 43 = .ok (.invokevirtual 44, 3) := by decide +kernel
theorem dX8_number2_46 : decode cX8_number2 46 = .ok (.iadd, 1) := by decide +kernel
theorem dX8_number2_47 : decode cX8_number2 47 = .ok (.bipush 48, 2) := by decide +kernel
theorem dX8_number2_49 : decode cX8_number2 49 = .ok (.isub, 1) := by decide +kernel
theorem dX8_number2_50 : decode cX8_number2 50 = .ok (.istore 4, 2) := by decide +kernel
theorem dX8_number2_52 : decode cX8_number2 52 = .ok (.aload_n 0, 1) := by decide +kernel
theorem dX8_number2_53 : decode cX8_number2 53 = .ok (.dup, 1) := by decide +kernel
theorem dX8_number2_54 : decode cX8_number2 54 = .ok (.getfield 41, 3) := by decide +kernel
theorem dX8_number2_57 : decode cX8_number2 57 = .ok (.iconst 1, 1) := by decide +kernel
theorem dX8_number2_58 : decode cX8_number2 58 = .ok (.iadd, 1) := by decide +kernel
theorem dX8_number2_59 : decode cX8_number2 59 = .ok (.putfield 41, 3) := by decide +kernel
theorem dX8_number2_62 : decode cX8_number2 62 = .ok (.iinc 5 1, 3) := by decide +kernel
theorem dX8_number2_65 : decode cX8_number2 65 = .ok (.goto (-59), 3) := by decide +kernel
theorem dX8_number2_68 : decode cX8_number2 68 = .ok (.aload_n 0, 1) := by decide +kernel
theorem dX8_number2_69 : decode cX8_number2 69 = .ok (.getfield 16, 3) := by decide +kernel
theorem dX8_number2_72 : decode cX8_number2 72 = .ok (.iload_n 1, 1) := by decide +kernel
theorem dX8_number2_73 : decode cX8_number2 73 = .ok (.iload 4, 2) := by decide +kernel
theorem dX8_number2_75 : decode cX8_number2 75 = .ok (.iastore, 1) := by decide +kernel
theorem dX8_number2_76 : decode cX8_number2 76 = .ok (.iload 5, 2) := by decide +kernel
theorem dX8_number2_78 : decode cX8_number2 78 = .ok (.ifCond .le 20, 3) := by decide +kernel
theorem dX8_number2_81 : decode cX8_number2 81 = .ok (.iload 4, 2) := by decide +kernel
theorem dX8_number2_83 : decode cX8_number2 83 = .ok (.i2l, 1) := by decide +kernel
theorem dX8_number2_84 : decode cX8_number2 84 = .ok (.iload_n 2, 1) := by decide +kernel
theorem dX8_number2_85 : decode cX8_number2 85 = .ok (.i2l, 1) := by decide +kernel
theorem dX8_number2_86 : decode cX8_number2 86 = .ok (.iload_n 3, 1) := by decide +kernel
theorem dX8_number2_87 : decode cX8_number2 87 = .ok (.i2l, 1) := by decide +kernel
theorem dX8_number2_88 : decode cX8_number2 88 = .ok (.invokestatic 33, 3) := by decide +kernel
theorem dX8_number2_91 : decode cX8_number2 91 = .ok (.ifCond .eq 7, 3) := by decide +kernel
theorem dX8_number2_94 : decode cX8_number2 94 = .ok (.iconst 1, 1) := by decide +kernel
theorem dX8_number2_95 : decode cX8_number2 95 = .ok (.goto 4, 3) := by decide +kernel
theorem dX8_number2_98 : decode cX8_number2 98 = .ok (.iconst 0, 1) := by decide +kernel
theorem dX8_number2_99 : decode cX8_number2 99 = .ok (.ireturn, 1) := by decide +kernel
theorem dX8_whole_0 : decode cX8_whole 0 = .ok (.iconst 0, 1) := by decide +kernel
theorem dX8_whole_1 : decode cX8_whole 1 = .ok (.istore_n 2, 1) := by decide +kernel
theorem dX8_whole_2 : decode cX8_whole 2 = .ok (.iconst 0, 1) := by decide +kernel
theorem dX8_whole_3 : decode cX8_whole 3 = .ok (.istore_n 3, 1) := by decide +kernel
theorem dX8_whole_4 : decode cX8_whole 4 = .ok (.iload_n 3, 1) := by decide +kernel
theorem dX8_whole_5 : decode cX8_whole 5 = .ok (.aload_n 0, 1) := by decide +kernel
theorem dX8_whole_6 : decode cX8_whole 6 = .ok (.bipush 22, 2) := by decide +kernel
theorem dX8_whole_8 : decode cX8_whole 8 = .ok (.iaload, 1) := by decide +kernel
theorem dX8_whole_9 : decode cX8_whole 9 = .ok (.if_icmp .ge 28, 3) := by decide +kernel
theorem dX8_whole_12 : decode cX8_whole 12 = .ok (.iload_n 2, 1) := by decide +kernel
theorem dX8_whole_13 : decode cX8_whole 13 = .ok (.aload_n 0, 1) := by decide +kernel
theorem dX8_whole_14 : decode cX8_whole 14 = .ok (.iload_n 3, 1) := by decide +kernel
theorem dX8_whole_15 : decode cX8_whole 15 = .ok (.iaload, 1) := by decide +kernel
theorem dX8_whole_16 : decode cX8_whole 16 = .ok (.aload_n 0, 1) := by decide +kernel
theorem dX8_whole_17 : decode cX8_whole 17 = .ok (.iconst 4, 1) := by decide +kernel
theorem dX8_whole_18 : decode cX8_whole 18 = .ok (.bipush 6, 2) := by decide +kernel
theorem dX8_whole_20 : decode cX8_whole 20 = .ok (.iload_n 1, 1) := by decide +kernel
theorem dX8_whole_21 : decode cX8_whole 21 = .ok (.imul, 1) := by decide +kernel
theorem dX8_whole_22 : decode cX8_whole 22 = .ok (.iadd, 1) := by decide +kernel
theorem dX8_whole_23 : decode cX8_whole 23 = .ok (.iconst 2, 1) := by decide +kernel
theorem dX8_whole_24 : decode cX8_whole 24 = .ok (.iadd, 1) := by decide +kernel
theorem dX8_whole_25 : decode cX8_whole 25 = .ok (.iload_n 3, 1) := by decide +kernel
theorem dX8_whole_26 : decode cX8_whole 26 = .ok (.iadd, 1) := by decide +kernel
theorem dX8_whole_27 : decode cX8_whole 27 = .ok (.iaload, 1) := by decide +kernel
theorem dX8_whole_28 : decode cX8_whole 28 = .ok (.imul, 1) := by decide +kernel
theorem dX8_whole_29 : decode cX8_whole 29 = .ok (.iadd, 1) := by decide +kernel
theorem dX8_whole_30 : decode cX8_whole 30 = .ok (.istore_n 2, 1) := by decide +kernel
theorem dX8_whole_31 : decode cX8_whole 31 = .ok (.iinc 3 1, 3) := by decide +kernel
theorem dX8_whole_34 : decode cX8_whole 34 = .ok (.goto (-30), 3) := by decide +kernel
theorem dX8_whole_37 : decode cX8_whole 37 = .ok (.iload_n 2, 1) := by decide +kernel
theorem dX8_whole_38 : decode cX8_whole 38 = .ok (.ireturn, 1) := by decide +kernel
theorem dX8_seriesItem_0 : decode cX8_seriesItem 0 = .ok (.aload_n 0, 1) := by decide +kernel
theorem dX8_seriesItem_1 : decode cX8_seriesItem 1 = .ok (.getfield 16, 3) := by decide +kernel
theorem dX8_seriesItem_4 : decode cX8_seriesItem 4 = .ok (.bipush 23, 2) := by decide +kernel
theorem dX8_seriesItem_6 : decode cX8_seriesItem 6 = .ok (.iaload, 1) := by decide +kernel
theorem dX8_seriesItem_7 : decode cX8_seriesItem 7 = .ok (.istore_n 1, 1) := by decide +kernel
theorem dX8_seriesItem_8 : decode cX8_seriesItem 8 = .ok (.iconst 4, 1) := by decide +kernel
theorem dX8_seriesItem_9 : decode cX8_seriesItem 9 = .ok (.bipush 6, 2) := by decide +kernel
theorem dX8_seriesItem_11 : decode cX8_seriesItem 11 = .ok (.iload_n 1, 1) := by decide +kernel
theorem dX8_seriesItem_12 : decode cX8_seriesItem 12 = .ok (.imul, 1) := by decide +kernel
theorem dX8_seriesItem_13 : decode cX8_seriesItem 13 = .ok (.iadd, 1) := by decide +kernel
theorem dX8_seriesItem_14 : decode cX8_seriesItem 14 = .ok (.istore_n 2, 1) := by decide +kernel
theorem dX8_seriesItem_15 : decode cX8_seriesItem 15 = .ok (.iload_n 1, 1) := by decide +kernel
theorem dX8_seriesItem_16 : decode cX8_seriesItem 16 = .ok (.iconst 3, 1) := by decide +kernel
theorem dX8_seriesItem_17 : decode cX8_seriesItem 17 = .ok (.if_icmp .eq 24, 3) := by decide +kernel
theorem dX8_seriesItem_20 : decode cX8_seriesItem 20 = .ok (.aload_n 0, 1) := by decide +kernel
theorem dX8_seriesItem_21 : decode cX8_seriesItem 21 = .ok (.aload_n 0, 1) := by decide +kernel
theorem dX8_seriesItem_22 : decode cX8_seriesItem 22 = .ok (.getfield 41, 3) := by decide +kernel
theorem dX8_seriesItem_25 : decode cX8_seriesItem 25 = .ok (.invokevirtual 44, 3) := by decide +kernel
theorem dX8_seriesItem_28 : decode cX8_seriesItem 28 = .ok (.i2l, 1) := by decide +kernel
theorem dX8_seriesItem_29 : decode cX8_seriesItem 29 = .ok (.ldc2_w 52, 3) := by decide +kernel
theorem dX8_seriesItem_32 : decode cX8_seriesItem 32 = .ok (.ldc2_w 54, 3) := by decide +kernel
theorem dX8_seriesItem_35 : decode cX8_seriesItem 35 = .ok (.invokestatic 33, 3) := by decide +kernel
theorem dX8_seriesItem_38 : decode cX8_seriesItem 38 = .ok (.ifCond .ne 5, 3) := by decide +kernel
theorem dX8_seriesItem_41 : decode cX8_seriesItem 41 = .ok (.iconst 0, 1) := by decide +kernel
theorem dX8_seriesItem_42 : decode cX8_seriesItem 42 = .ok (.ireturn, 1) := by decide +kernel
theorem dX8_seriesItem_43 : decode cX8_seriesItem 43 = .ok (.aload_n 0, 1) := by decide +kernel
theorem dX8_seriesItem_44 : decode cX8_seriesItem 44 = .ok (.getfield 16, 3) := by decide +kernel
theorem dX8_seriesItem_47 : decode cX8_seriesItem 47 = .ok (.iload_n 2, 1) := by decide +kernel
theorem dX8_seriesItem_48 : decode cX8_seriesItem 48 = .ok (.aload_n 0, 1) := by decide +kernel
theorem dX8_seriesItem_49 : decode cX8_seriesItem 49 = .ok (.aload_n 0, 1) := by decide +kernel
theorem dX8_seriesItem_50 : decode cX8_seriesItem 50 = .ok (.getfield 41, 3) := by decide +kernel
theorem dX8_seriesItem_53 : decode cX8_seriesItem 53 = .ok (.invokevirtual 44, 3) := by decide +kernel
theorem dX8_seriesItem_56 : decode cX8_seriesItem 56 = .ok (.bipush 96, 2) := by decide +kernel
theorem dX8_seriesItem_58 : decode cX8_seriesItem 58 = .ok (.isub, 1) := by decide +kernel
theorem dX8_seriesItem_59 : decode cX8_seriesItem 59 = .ok (.iastore, 1) := by decide +kernel
theorem dX8_seriesItem_60 : decode cX8_seriesItem 60 = .ok (.aload_n 0, 1) := by decide +kernel
theorem dX8_seriesItem_61 : decode cX8_seriesItem 61 = .ok (.dup, 1) := by decide +kernel
theorem dX8_seriesItem_62 : decode cX8_seriesItem 62 = .ok (.getfield 41, 3) := by decide +kernel
theorem dX8_seriesItem_65 : decode cX8_seriesItem 65 = .ok (.iconst 1, 1) := by decide +kernel
theorem dX8_seriesItem_66 : decode cX8_seriesItem 66 = .ok (.iadd, 1) := by decide +kernel
theorem dX8_seriesItem_67 : decode cX8_seriesItem 67 = .ok (.putfield 41, 3) := by decide +kernel
theorem dX8_seriesItem_70 : decode cX8_seriesItem 70 = .ok (.iconst 0, 1) := by decide +kernel
theorem dX8_seriesItem_71 : decode cX8_seriesItem 71 = .ok (.istore_n 3, 1) := by decide +kernel
theorem dX8_seriesItem_72 : decode cX8_seriesItem 72 = .ok (.iload_n 3, 1) := by decide +kernel
theorem dX8_seriesItem_73 : decode cX8_seriesItem 73 = .ok (.iload_n 1, 1) := by decide +kernel
theorem dX8_seriesItem_74 : decode cX8_seriesItem 74 = .ok (.if_icmp .ge 31, 3) := by decide +kernel
theorem dX8_seriesItem_77 : decode cX8_seriesItem 77 = .ok (.aload_n 0, 1) := by decide +kernel
theorem dX8_seriesItem_78 : decode cX8_seriesItem 78 = .ok (.getfield 16, 3) := by decide +kernel
theorem dX8_seriesItem_81 : decode cX8_seriesItem 81 = .ok (.iconst 4, 1) := by decide +kernel
theorem dX8_seriesItem_82 : decode cX8_seriesItem 82 = .ok (.bipush 6, 2) := by decide +kernel
theorem dX8_seriesItem_84 : decode cX8_seriesItem 84 = .ok (.iload_n 3, 1) := by decide +kernel
theorem dX8_seriesItem_85 : decode cX8_seriesItem 85 = .ok (.imul, 1) := by decide +kernel
theorem dX8_seriesItem_86 : decode cX8_seriesItem 86 = .ok (.iadd, 1) := by decide +kernel
theorem dX8_seriesItem_87 : decode cX8_seriesItem 87 = .ok (.iaload, 1) := by decide +kernel
theorem dX8_seriesItem_88 : decode cX8_seriesItem 88 = .ok (.aload_n 0, 1) := by decide +kernel
theorem dX8_seriesItem_89 : decode cX8_seriesItem 89 = .ok (.getfield 16, 3) := by decide +kernel
theorem dX8_seriesItem_92 : decode cX8_seriesItem 92 = .ok (.iload_n 2, 1) := by decide +kernel
theorem dX8_seriesItem_93 : decode cX8_seriesItem 93 = .ok (.iaload, 1) := by decide +kernel
theorem dX8_seriesItem_94 : decode cX8_seriesItem 94 = .ok (.if_icmp .ne 5, 3) := by decide +kernel
theorem dX8_seriesItem_97 : decode cX8_seriesItem 97 = .ok (.iconst 0, 1) := by decide +kernel
theorem dX8_seriesItem_98 : decode cX8_seriesItem 98 = .ok (.ireturn, 1) := by decide +kernel
theorem dX8_seriesItem_99 : decode cX8_seriesItem 99 = .ok (.iinc 3 1, 3) := by decide +kernel
theorem dX8_seriesItem_102 : decode cX8_seriesItem 102 = .ok (.goto (-30), 3) := by decide +kernel
theorem dX8_seriesItem_105 : decode cX8_seriesItem 105 = .ok (.aload_n 0, 1) := by decide +kernel
theorem dX8_seriesItem_106 : decode cX8_seriesItem 106 = .ok (.bipush 44, 2) := by decide +kernel
theorem dX8_seriesItem_108 : decode cX8_seriesItem 108 = .ok (.invokevirtual 56, 3) := by decide +kernel
theorem dX8_seriesItem_111 : decode cX8_seriesItem 111 = .ok (.ifCond .eq 19, 3) := by decide +kernel
theorem dX8_seriesItem_114 : decode cX8_seriesItem 114 = .ok (.aload_n 0, 1) := by decide +kernel
theorem dX8_seriesItem_115 : decode cX8_seriesItem 115 = .ok (.iload_n 2, 1) := by decide +kernel
theorem dX8_seriesItem_116 : decode cX8_seriesItem 116 = .ok (.iconst 1, 1) := by decide +kernel
theorem dX8_seriesItem_117 : decode cX8_seriesItem 117 = .ok (.iadd, 1) := by decide +kernel
theorem dX8_seriesItem_118 : decode cX8_seriesItem 118 = .ok (.iconst 0, 1) := by decide +kernel
theorem dX8_seriesItem_119 : decode cX8_seriesItem 119 = .ok (.iconst 2, 1) := by decide +kernel
theorem dX8_seriesItem_120 : decode cX8_seriesItem 120 = .ok (.invokevirtual 60, 3) := by decide +kernel
theorem dX8_seriesItem_123 : decode cX8_seriesItem 123 = .ok (.ifCond .eq 7, 3) := by decide +kernel
theorem dX8_seriesItem_126 : decode cX8_seriesItem 126 = .ok (.iconst 1, 1) := by decide +kernel
theorem dX8_seriesItem_127 : decode cX8_seriesItem 127 = .ok (.goto 4, 3) := by decide +kernel
theorem dX8_seriesItem_130 : decode cX8_seriesItem 130 = .ok (.iconst 0, 1) := by decide +kernel
theorem dX8_seriesItem_131 : decode cX8_seriesItem 131 = .ok (.istore_n 3, 1) := by decide +kernel
theorem dX8_seriesItem_132 : decode cX8_seriesItem 132 = .ok (.iconst 0, 1) := by decide +kernel
theorem dX8_seriesItem_133 : decode cX8_seriesItem 133 = .ok (.istore 4, 2) := by decide +kernel
theorem dX8_seriesItem_135 : decode cX8_seriesItem 135 = .ok (.iload 4, 2) := by decide +kernel
theorem dX8_seriesItem_137 : decode cX8_seriesItem 137 = .ok (.aload_n 0, 1) := by decide +kernel
theorem dX8_seriesItem_138 : decode cX8_seriesItem 138 = .ok (.getfield 16, 3) := by decide +kernel
theorem dX8_seriesItem_141 : decode cX8_seriesItem 141 = .ok (.bipush 22, 2) := by decide +kernel
theorem dX8_seriesItem_143 : decode cX8_seriesItem 143 = .ok (.iaload, 1) := by decide +kernel
theorem dX8_seriesItem_144 : decode cX8_seriesItem 144 = .ok (.if_icmp .ge 44, 3) := by decide +kernel
theorem dX8_seriesItem_147 : decode cX8_seriesItem 147 = .ok (.iload_n 3, 1) := by decide +kernel
theorem dX8_seriesItem_148 : decode cX8_seriesItem 148 = .ok (.ifCond .eq 40, 3) := by decide +kernel
theorem dX8_seriesItem_151 : decode cX8_seriesItem 151 = .ok (.aload_n 0, 1) := by decide +kernel
theorem dX8_seriesItem_152 : decode cX8_seriesItem 152 = .ok (.bipush 44, 2) := by decide +kernel
theorem dX8_seriesItem_154 : decode cX8_seriesItem 154 = .ok (.invokevirtual 56, 3) := by decide +kernel
theorem dX8_seriesItem_157 : decode cX8_seriesItem 157 = .ok (.ifCond .eq 23, 3) := by decide +kernel
theorem dX8_seriesItem_160 : decode cX8_seriesItem 160 = .ok (.aload_n 0, 1) := by decide +kernel
theorem dX8_seriesItem_161 : decode cX8_seriesItem 161 = .ok (.iload_n 2, 1) := by decide +kernel
theorem dX8_seriesItem_162 : decode cX8_seriesItem 162 = .ok (.iconst 2, 1) := by decide +kernel
theorem dX8_seriesItem_163 : decode cX8_seriesItem 163 = .ok (.iadd, 1) := by decide +kernel
theorem dX8_seriesItem_164 : decode cX8_seriesItem 164 = .ok (.iload 4, 2) := by decide +kernel
theorem dX8_seriesItem_166 : decode cX8_seriesItem 166 = .ok (.iadd, 1) := by decide +kernel
theorem dX8_seriesItem_167 : decode cX8_seriesItem 167 = .ok (.iconst 0, 1) := by decide +kernel
theorem dX8_seriesItem_168 : decode cX8_seriesItem 168 = .ok (.bipush 40, 2) := by decide +kernel
theorem dX8_seriesItem_170 : decode cX8_seriesItem 170 = .ok (.invokevirtual 60, 3) := by decide +kernel
theorem dX8_seriesItem_173 : decode cX8_seriesItem 173 = .ok (.ifCond .eq 7, 3) := by decide +kernel
theorem dX8_seriesItem_176 : decode cX8_seriesItem 176 = .ok (.iconst 1, 1) := by decide +kernel
theorem dX8_seriesItem_177 : decode cX8_seriesItem 177 = .ok (.goto 4, 3) := by decide +kernel
theorem dX8_seriesItem_180 : decode cX8_seriesItem 180 = .ok (.iconst 0, 1) := by decide +kernel
theorem dX8_seriesItem_181 : decode cX8_seriesItem 181 = .ok (.istore_n 3, 1) := by decide +kernel
theorem dX8_seriesItem_182 : decode cX8_seriesItem 182 = .ok (.iinc 4 1, 3) := by decide +kernel
theorem dX8_seriesItem_185 : decode cX8_seriesItem 185 = .ok (.goto (-50), 3) := by decide +kernel
theorem dX8_seriesItem_188 : decode cX8_seriesItem 188 = .ok (.aload_n 0, 1) := by decide +kernel
theorem dX8_seriesItem_189 : decode cX8_seriesItem 189 = .ok (.getfield 16, 3) := by decide +kernel
theorem dX8_seriesItem_192 : decode cX8_seriesItem 192 = .ok (.bipush 23, 2) := by decide +kernel
theorem dX8_seriesItem_194 : decode cX8_seriesItem 194 = .ok (.dup2, 1) := by decide +kernel
theorem dX8_seriesItem_195 : decode cX8_seriesItem 195 = .ok (.iaload, 1) := by decide +kernel
theorem dX8_seriesItem_196 : decode cX8_seriesItem 196 = .ok (.iconst 1, 1) := by decide +kernel
theorem dX8_seriesItem_197 : decode cX8_seriesItem 197 = .ok (.iadd, 1) := by decide +kernel
theorem dX8_seriesItem_198 : decode cX8_seriesItem 198 = .ok (.iastore, 1) := by decide +kernel
theorem dX8_seriesItem_199 : decode cX8_seriesItem 199 = .ok (.iload_n 3, 1) := by decide +kernel
theorem dX8_seriesItem_200 : decode cX8_seriesItem 200 = .ok (.ifCond .eq 26, 3) := by decide +kernel
theorem dX8_seriesItem_203 : decode cX8_seriesItem 203 = .ok (.aload_n 0, 1) := by decide +kernel
theorem dX8_seriesItem_204 : decode cX8_seriesItem 204 = .ok (.getfield 16, 3) := by decide +kernel
theorem dX8_seriesItem_207 : decode cX8_seriesItem 207 = .ok (.iload_n 1, 1) := by decide +kernel
theorem dX8_seriesItem_208 : decode cX8_seriesItem 208 = .ok (.invokestatic 64, 3) := by decide +kernel
theorem dX8_seriesItem_211 : decode cX8_seriesItem 211 = .ok (.i2l, 1) := by decide +kernel
theorem dX8_seriesItem_212 : decode cX8_seriesItem 212 = .ok (.lconst 1, 1) := by decide +kernel
theorem dX8_seriesItem_213 : decode cX8_seriesItem 213 = .ok (.ldc2_w 68, 3) := by decide +kernel
theorem dX8_seriesItem_216 : decode cX8_seriesItem 216 = .ok (.invokestatic 33, 3) := by decide +kernel
theorem dX8_seriesItem_219 : decode cX8_seriesItem 219 = .ok (.ifCond .eq 7, 3) := by decide +kernel
theorem dX8_seriesItem_222 : decode cX8_seriesItem 222 = .ok (.iconst 1, 1) := by decide +kernel
theorem dX8_seriesItem_223 : decode cX8_seriesItem 223 = .ok (.goto 4, 3) := by decide +kernel
theorem dX8_seriesItem_226 : decode cX8_seriesItem 226 = .ok (.iconst 0, 1) := by decide +kernel
theorem dX8_seriesItem_227 : decode cX8_seriesItem 227 = .ok (.ireturn, 1) := by decide +kernel
theorem dX8_item_0 : decode cX8_item 0 = .ok (.iload_n 1, 1) := by decide +kernel
theorem dX8_item_1 : decode cX8_item 1 = .ok (.lookupswitch 101 #[(112, 35), (115, 86), (122, 91)], 35) := by decide +kernel
theorem dX8_item_36 : decode cX8_item 36 = .ok (.aload_n 0, 1) := by decide +kernel
theorem dX8_item_37 : decode cX8_item 37 = .ok (.getfield 16, 3) := by decide +kernel
theorem dX8_item_40 : decode cX8_item 40 = .ok (.bipush 22, 2) := by decide +kernel
theorem dX8_item_42 : decode cX8_item 42 = .ok (.iaload, 1) := by decide +kernel
theorem dX8_item_43 : decode cX8_item 43 = .ok (.iconst 4, 1) := by decide +kernel
theorem dX8_item_44 : decode cX8_item 44 = .ok (.if_icmp .eq 13, 3) := by decide +kernel
theorem dX8_item_47 : decode cX8_item 47 = .ok (.aload_n 0, 1) := by decide +kernel
theorem dX8_item_48 : decode cX8_item 48 = .ok (.getfield 16, 3) := by decide +kernel
theorem dX8_item_51 : decode cX8_item 51 = .ok (.bipush 23, 2) := by decide +kernel
theorem dX8_item_53 : decode cX8_item 53 = .ok (.iaload, 1) := by decide +kernel
theorem dX8_item_54 : decode cX8_item 54 = .ok (.ifCond .le 5, 3) := by decide +kernel
theorem dX8_item_57 : decode cX8_item 57 = .ok (.iconst 0, 1) := by decide +kernel
theorem dX8_item_58 : decode cX8_item 58 = .ok (.ireturn, 1) := by decide +kernel
theorem dX8_item_59 : decode cX8_item 59 = .ok (.aload_n 0, 1) := by decide +kernel
theorem dX8_item_60 : decode cX8_item 60 = .ok (.getfield 16, 3) := by decide +kernel
theorem dX8_item_63 : decode cX8_item 63 = .ok (.bipush 22, 2) := by decide +kernel
theorem dX8_item_65 : decode cX8_item 65 = .ok (.dup2, 1) := by decide +kernel
theorem dX8_item_66 : decode cX8_item 66 = .ok (.iaload, 1) := by decide +kernel
theorem dX8_item_67 : decode cX8_item 67 = .ok (.iconst 1, 1) := by decide +kernel
theorem dX8_item_68 : decode cX8_item 68 = .ok (.iadd, 1) := by decide +kernel
theorem dX8_item_69 : decode cX8_item 69 = .ok (.iastore, 1) := by decide +kernel
theorem dX8_item_70 : decode cX8_item 70 = .ok (.aload_n 0, 1) := by decide +kernel
theorem dX8_item_71 : decode cX8_item 71 = .ok (.aload_n 0, 1) := by decide +kernel
theorem dX8_item_72 : decode cX8_item 72 = .ok (.getfield 16, 3) := by decide +kernel
theorem dX8_item_75 : decode cX8_item 75 = .ok (.bipush 22, 2) := by decide +kernel
theorem dX8_item_77 : decode cX8_item 77 = .ok (.iaload, 1) := by decide +kernel
theorem dX8_item_78 : decode cX8_item 78 = .ok (.iconst 1, 1) := by decide +kernel
theorem dX8_item_79 : decode cX8_item 79 = .ok (.isub, 1) := by decide +kernel
theorem dX8_item_80 : decode cX8_item 80 = .ok (.iconst 1, 1) := by decide +kernel
theorem dX8_item_81 : decode cX8_item 81 = .ok (.bipush 8, 2) := by decide +kernel
theorem dX8_item_83 : decode cX8_item 83 = .ok (.invokevirtual 60, 3) := by decide +kernel
theorem dX8_item_86 : decode cX8_item 86 = .ok (.ireturn, 1) := by decide +kernel
theorem dX8_item_87 : decode cX8_item 87 = .ok (.aload_n 0, 1) := by decide +kernel
theorem dX8_item_88 : decode cX8_item 88 = .ok (.invokevirtual 70, 3) := by decide +kernel
theorem dX8_item_91 : decode cX8_item 91 = .ok (.ireturn, 1) := by decide +kernel
theorem dX8_item_92 : decode cX8_item 92 = .ok (.aload_n 0, 1) := by decide +kernel
theorem dX8_item_93 : decode cX8_item 93 = .ok (.bipush 24, 2) := by decide +kernel
theorem dX8_item_95 : decode cX8_item 95 = .ok (.iconst 0, 1) := by decide +kernel
theorem dX8_item_96 : decode cX8_item 96 = .ok (.bipush 99, 2) := by decide +kernel
theorem dX8_item_98 : decode cX8_item 98 = .ok (.invokevirtual 60, 3) := by decide +kernel
theorem dX8_item_101 : decode cX8_item 101 = .ok (.ireturn, 1) := by decide +kernel
theorem dX8_item_102 : decode cX8_item 102 = .ok (.iconst 0, 1) := by decide +kernel
theorem dX8_item_103 : decode cX8_item 103 = .ok (.ireturn, 1) := by decide +kernel
theorem dX8_fault_0 : decode cX8_fault 0 = .ok (.iconst 0, 1) := by decide +kernel
theorem dX8_fault_1 : decode cX8_fault 1 = .ok (.istore_n 1, 1) := by decide +kernel
theorem dX8_fault_2 : decode cX8_fault 2 = .ok (.iload_n 1, 1) := by decide +kernel
theorem dX8_fault_3 : decode cX8_fault 3 = .ok (.bipush 25, 2) := by decide +kernel
theorem dX8_fault_5 : decode cX8_fault 5 = .ok (.if_icmp .ge 16, 3) := by decide +kernel
theorem dX8_fault_8 : decode cX8_fault 8 = .ok (.aload_n 0, 1) := by decide +kernel
theorem dX8_fault_9 : decode cX8_fault 9 = .ok (.getfield 16, 3) := by decide +kernel
theorem dX8_fault_12 : decode cX8_fault 12 = .ok (.iload_n 1, 1) := by decide +kernel
theorem dX8_fault_13 : decode cX8_fault 13 = .ok (.iconst 0, 1) := by decide +kernel
theorem dX8_fault_14 : decode cX8_fault 14 = .ok (.iastore, 1) := by decide +kernel
theorem dX8_fault_15 : decode cX8_fault 15 = .ok (.iinc 1 1, 3) := by decide +kernel
theorem dX8_fault_18 : decode cX8_fault 18 = .ok (.goto (-16), 3) := by decide +kernel
theorem dX8_fault_21 : decode cX8_fault 21 = .ok (.aload_n 0, 1) := by decide +kernel
theorem dX8_fault_22 : decode cX8_fault 22 = .ok (.getfield 16, 3) := by decide +kernel
theorem dX8_fault_25 : decode cX8_fault 25 = .ok (.bipush 24, 2) := by decide +kernel
theorem dX8_fault_27 : decode cX8_fault 27 = .ok (.bipush 20, 2) := by decide +kernel
theorem dX8_fault_29 : decode cX8_fault 29 = .ok (.iastore, 1) := by decide +kernel
theorem dX8_fault_30 : decode cX8_fault 30 = .ok (.aload_n 0, 1) := by decide +kernel
theorem dX8_fault_31 : decode cX8_fault 31 = .ok (.iconst 0, 1) := by decide +kernel
theorem dX8_fault_32 : decode cX8_fault 32 = .ok (.putfield 41, 3) := by decide +kernel
theorem dX8_fault_35 : decode cX8_fault 35 = .ok (.aload_n 0, 1) := by decide +kernel
theorem dX8_fault_36 : decode cX8_fault 36 = .ok (.getfield 41, 3) := by decide +kernel
theorem dX8_fault_39 : decode cX8_fault 39 = .ok (.aload_n 0, 1) := by decide +kernel
theorem dX8_fault_40 : decode cX8_fault 40 = .ok (.getfield 37, 3) := by decide +kernel
theorem dX8_fault_43 : decode cX8_fault 43 = .ok (.if_icmp .ge 45, 3) := by decide +kernel
theorem dX8_fault_46 : decode cX8_fault 46 = .ok (.aload_n 0, 1) := by decide +kernel
theorem dX8_fault_47 : decode cX8_fault 47 = .ok (.getfield 41, 3) := by decide +kernel
theorem dX8_fault_50 : decode cX8_fault 50 = .ok (.istore_n 1, 1) := by decide +kernel
theorem dX8_fault_51 : decode cX8_fault 51 = .ok (.aload_n 0, 1) := by decide +kernel
theorem dX8_fault_52 : decode cX8_fault 52 = .ok (.dup, 1) := by decide +kernel
theorem dX8_fault_53 : decode cX8_fault 53 = .ok (.getfield 41, 3) := by decide +kernel
theorem dX8_fault_56 : decode cX8_fault 56 = .ok (.iconst 1, 1) := by decide +kernel
theorem dX8_fault_57 : decode cX8_fault 57 = .ok (.iadd, 1) := by decide +kernel
theorem dX8_fault_58 : decode cX8_fault 58 = .ok (.putfield 41, 3) := by decide +kernel
theorem dX8_fault_61 : decode cX8_fault 61 = .ok (.aload_n 0, 1) := by decide +kernel
theorem dX8_fault_62 : decode cX8_fault 62 = .ok (.aload_n 0, 1) := by decide +kernel
theorem dX8_fault_63 : decode cX8_fault 63 = .ok (.getfield 7, 3) := by decide +kernel
theorem dX8_fault_66 : decode cX8_fault 66 = .ok (.iload_n 1, 1) := by decide +kernel
theorem dX8_fault_67 : decode cX8_fault 67 = .ok (.iaload, 1) := by decide +kernel
theorem dX8_fault_68 : decode cX8_fault 68 = .ok (.invokevirtual 74, 3) := by decide +kernel
theorem dX8_fault_71 : decode cX8_fault 71 = .ok (.ifCond .eq 12, 3) := by decide +kernel
theorem dX8_fault_74 : decode cX8_fault 74 = .ok (.aload_n 0, 1) := by decide +kernel
theorem dX8_fault_75 : decode cX8_fault 75 = .ok (.bipush 59, 2) := by decide +kernel
theorem dX8_fault_77 : decode cX8_fault 77 = .ok (.invokevirtual 56, 3) := by decide +kernel
theorem dX8_fault_80 : decode cX8_fault 80 = .ok (.ifCond .ne 5, 3) := by decide +kernel
theorem dX8_fault_83 : decode cX8_fault 83 = .ok (.iload_n 1, 1) := by decide +kernel
theorem dX8_fault_84 : decode cX8_fault 84 = .ok (.ireturn, 1) := by decide +kernel
theorem dX8_fault_85 : decode cX8_fault 85 = .ok (.goto (-50), 3) := by decide +kernel
theorem dX8_fault_88 : decode cX8_fault 88 = .ok (.bipush (-4), 2) := by decide +kernel
theorem dX8_fault_90 : decode cX8_fault 90 = .ok (.ireturn, 1) := by decide +kernel
theorem dX8_lay_0 : decode cX8_lay 0 = .ok (.aload_n 0, 1) := by decide +kernel
theorem dX8_lay_1 : decode cX8_lay 1 = .ok (.invokevirtual 77, 3) := by decide +kernel
theorem dX8_lay_4 : decode cX8_lay 4 = .ok (.bipush (-4), 2) := by decide +kernel
theorem dX8_lay_6 : decode cX8_lay 6 = .ok (.if_icmp .ne 13, 3) := by decide +kernel
theorem dX8_lay_9 : decode cX8_lay 9 = .ok (.aload_n 0, 1) := by decide +kernel
theorem dX8_lay_10 : decode cX8_lay 10 = .ok (.getfield 16, 3) := by decide +kernel
theorem dX8_lay_13 : decode cX8_lay 13 = .ok (.bipush 23, 2) := by decide +kernel
theorem dX8_lay_15 : decode cX8_lay 15 = .ok (.iaload, 1) := by decide +kernel
theorem dX8_lay_16 : decode cX8_lay 16 = .ok (.ifCond .ne 6, 3) := by decide +kernel
theorem dX8_lay_19 : decode cX8_lay 19 = .ok (.bipush (-2), 2) := by decide +kernel
theorem dX8_lay_21 : decode cX8_lay 21 = .ok (.ireturn, 1) := by decide +kernel
theorem dX8_lay_22 : decode cX8_lay 22 = .ok (.iconst 0, 1) := by decide +kernel
theorem dX8_lay_23 : decode cX8_lay 23 = .ok (.istore_n 1, 1) := by decide +kernel
theorem dX8_lay_24 : decode cX8_lay 24 = .ok (.iload_n 1, 1) := by decide +kernel
theorem dX8_lay_25 : decode cX8_lay 25 = .ok (.bipush 25, 2) := by decide +kernel
theorem dX8_lay_27 : decode cX8_lay 27 = .ok (.if_icmp .ge 21, 3) := by decide +kernel
theorem dX8_lay_30 : decode cX8_lay 30 = .ok (.aload_n 0, 1) := by decide +kernel
theorem dX8_lay_31 : decode cX8_lay 31 = .ok (.getfield 13, 3) := by decide +kernel
theorem dX8_lay_34 : decode cX8_lay 34 = .ok (.iload_n 1, 1) := by decide +kernel
theorem dX8_lay_35 : decode cX8_lay 35 = .ok (.aload_n 0, 1) := by decide +kernel
theorem dX8_lay_36 : decode cX8_lay 36 = .ok (.getfield 16, 3) := by decide +kernel
theorem dX8_lay_39 : decode cX8_lay 39 = .ok (.iload_n 1, 1) := by decide +kernel
theorem dX8_lay_40 : decode cX8_lay 40 = .ok (.iaload, 1) := by decide +kernel
theorem dX8_lay_41 : decode cX8_lay 41 = .ok (.iastore, 1) := by decide +kernel
theorem dX8_lay_42 : decode cX8_lay 42 = .ok (.iinc 1 1, 3) := by decide +kernel
theorem dX8_lay_45 : decode cX8_lay 45 = .ok (.goto (-21), 3) := by decide +kernel
theorem dX8_lay_48 : decode cX8_lay 48 = .ok (.iconst 0, 1) := by decide +kernel
theorem dX8_lay_49 : decode cX8_lay 49 = .ok (.istore_n 1, 1) := by decide +kernel
theorem dX8_lay_50 : decode cX8_lay 50 = .ok (.iload_n 1, 1) := by decide +kernel
theorem dX8_lay_51 : decode cX8_lay 51 = .ok (.bipush 112, 2) := by decide +kernel
theorem dX8_lay_53 : decode cX8_lay 53 = .ok (.if_icmp .ge 16, 3) := by decide +kernel
theorem dX8_lay_56 : decode cX8_lay 56 = .ok (.aload_n 0, 1) := by decide +kernel
theorem dX8_lay_57 : decode cX8_lay 57 = .ok (.getfield 19, 3) := by decide +kernel
theorem dX8_lay_60 : decode cX8_lay 60 = .ok (.iload_n 1, 1) := by decide +kernel
theorem dX8_lay_61 : decode cX8_lay 61 = .ok (.iconst 0, 1) := by decide +kernel
theorem dX8_lay_62 : decode cX8_lay 62 = .ok (.iastore, 1) := by decide +kernel
theorem dX8_lay_63 : decode cX8_lay 63 = .ok (.iinc 1 1, 3) := by decide +kernel
theorem dX8_lay_66 : decode cX8_lay 66 = .ok (.goto (-16), 3) := by decide +kernel
theorem dX8_lay_69 : decode cX8_lay 69 = .ok (.aload_n 0, 1) := by decide +kernel
theorem dX8_lay_70 : decode cX8_lay 70 = .ok (.iconst 0, 1) := by decide +kernel
theorem dX8_lay_71 : decode cX8_lay 71 = .ok (.putfield 81, 3) := by decide +kernel
theorem dX8_lay_74 : decode cX8_lay 74 = .ok (.aload_n 0, 1) := by decide +kernel
theorem dX8_lay_75 : decode cX8_lay 75 = .ok (.getfield 13, 3) := by decide +kernel
theorem dX8_lay_78 : decode cX8_lay 78 = .ok (.bipush 23, 2) := by decide +kernel
theorem dX8_lay_80 : decode cX8_lay 80 = .ok (.iaload, 1) := by decide +kernel
theorem dX8_lay_81 : decode cX8_lay 81 = .ok (.ireturn, 1) := by decide +kernel
theorem dX8_isSeries_0 : decode cX8_isSeries 0 = .ok (.iload_n 1, 1) := by decide +kernel
theorem dX8_isSeries_1 : decode cX8_isSeries 1 = .ok (.i2l, 1) := by decide +kernel
theorem dX8_isSeries_2 : decode cX8_isSeries 2 = .ok (.lconst 0, 1) := by decide +kernel
theorem dX8_isSeries_3 : decode cX8_isSeries 3 = .ok (.aload_n 0, 1) := by decide +kernel
theorem dX8_isSeries_4 : decode cX8_isSeries 4 = .ok (.getfield 13, 3) := by decide +kernel
theorem dX8_isSeries_7 : decode cX8_isSeries 7 = .ok (.bipush 23, 2) := by decide +kernel
theorem dX8_isSeries_9 : decode cX8_isSeries 9 = .ok (.iaload, 1) := by decide +kernel
theorem dX8_isSeries_10 : decode cX8_isSeries 10 = .ok (.iconst 1, 1) := by decide +kernel
theorem dX8_isSeries_11 : decode cX8_isSeries 11 = .ok (.isub, 1) := by decide +kernel
theorem dX8_isSeries_12 : decode cX8_isSeries 12 = .ok (.i2l, 1) := by decide +kernel
theorem dX8_isSeries_13 : decode cX8_isSeries 13 = .ok (.invokestatic 33, 3) := by decide +kernel
theorem dX8_isSeries_16 : decode cX8_isSeries 16 = .ok (.ireturn, 1) := by decide +kernel
theorem dX8_isPress_0 : decode cX8_isPress 0 = .ok (.iload_n 1, 1) := by decide +kernel
theorem dX8_isPress_1 : decode cX8_isPress 1 = .ok (.i2l, 1) := by decide +kernel
theorem dX8_isPress_2 : decode cX8_isPress 2 = .ok (.lconst 0, 1) := by decide +kernel
theorem dX8_isPress_3 : decode cX8_isPress 3 = .ok (.aload_n 0, 1) := by decide +kernel
theorem dX8_isPress_4 : decode cX8_isPress 4 = .ok (.getfield 13, 3) := by decide +kernel
theorem dX8_isPress_7 : decode cX8_isPress 7 = .ok (.bipush 22, 2) := by decide +kernel
theorem dX8_isPress_9 : decode cX8_isPress 9 = .ok (.iaload, 1) := by decide +kernel
theorem dX8_isPress_10 : decode cX8_isPress 10 = .ok (.iconst 1, 1) := by decide +kernel
theorem dX8_isPress_11 : decode cX8_isPress 11 = .ok (.isub, 1) := by decide +kernel
theorem dX8_isPress_12 : decode cX8_isPress 12 = .ok (.i2l, 1) := by decide +kernel
theorem dX8_isPress_13 : decode cX8_isPress 13 = .ok (.invokestatic 33, 3) := by decide +kernel
theorem dX8_isPress_16 : decode cX8_isPress 16 = .ok (.ireturn, 1) := by decide +kernel
theorem dX8_sheets_0 : decode cX8_sheets 0 = .ok (.aload_n 0, 1) := by decide +kernel
theorem dX8_sheets_1 : decode cX8_sheets 1 = .ok (.getfield 13, 3) := by decide +kernel
theorem dX8_sheets_4 : decode cX8_sheets 4 = .ok (.iconst 4, 1) := by decide +kernel
theorem dX8_sheets_5 : decode cX8_sheets 5 = .ok (.bipush 6, 2) := by decide +kernel
theorem dX8_sheets_7 : decode cX8_sheets 7 = .ok (.iload_n 1, 1) := by decide +kernel
theorem dX8_sheets_8 : decode cX8_sheets 8 = .ok (.imul, 1) := by decide +kernel
theorem dX8_sheets_9 : decode cX8_sheets 9 = .ok (.iadd, 1) := by decide +kernel
theorem dX8_sheets_10 : decode cX8_sheets 10 = .ok (.iconst 2, 1) := by decide +kernel
theorem dX8_sheets_11 : decode cX8_sheets 11 = .ok (.iadd, 1) := by decide +kernel
theorem dX8_sheets_12 : decode cX8_sheets 12 = .ok (.iload_n 2, 1) := by decide +kernel
theorem dX8_sheets_13 : decode cX8_sheets 13 = .ok (.iadd, 1) := by decide +kernel
theorem dX8_sheets_14 : decode cX8_sheets 14 = .ok (.iaload, 1) := by decide +kernel
theorem dX8_sheets_15 : decode cX8_sheets 15 = .ok (.ireturn, 1) := by decide +kernel
theorem dX8_isNumber_0 : decode cX8_isNumber 0 = .ok (.aload_n 0, 1) := by decide +kernel
theorem dX8_isNumber_1 : decode cX8_isNumber 1 = .ok (.iload_n 1, 1) := by decide +kernel
theorem dX8_isNumber_2 : decode cX8_isNumber 2 = .ok (.invokevirtual 84, 3) := by decide +kernel
theorem dX8_isNumber_5 : decode cX8_isNumber 5 = .ok (.ifCond .eq 27, 3) := by decide +kernel
theorem dX8_isNumber_8 : decode cX8_isNumber 8 = .ok (.iload_n 2, 1) := by decide +kernel
theorem dX8_isNumber_9 : decode cX8_isNumber 9 = .ok (.i2l, 1) := by decide +kernel
theorem dX8_isNumber_10 : decode cX8_isNumber 10 = .ok (.lconst 0, 1) := by decide +kernel
theorem dX8_isNumber_11 : decode cX8_isNumber 11 = .ok (.aload_n 0, 1) := by decide +kernel
theorem dX8_isNumber_12 : decode cX8_isNumber 12 = .ok (.getfield 13, 3) := by decide +kernel
theorem dX8_isNumber_15 : decode cX8_isNumber 15 = .ok (.iload_n 1, 1) := by decide +kernel
theorem dX8_isNumber_16 : decode cX8_isNumber 16 = .ok (.invokestatic 64, 3) := by decide +kernel
theorem dX8_isNumber_19 : decode cX8_isNumber 19 = .ok (.iconst 1, 1) := by decide +kernel
theorem dX8_isNumber_20 : decode cX8_isNumber 20 = .ok (.isub, 1) := by decide +kernel
theorem dX8_isNumber_21 : decode cX8_isNumber 21 = .ok (.i2l, 1) := by decide +kernel
theorem dX8_isNumber_22 : decode cX8_isNumber 22 = .ok (.invokestatic 33, 3) := by decide +kernel
theorem dX8_isNumber_25 : decode cX8_isNumber 25 = .ok (.ifCond .eq 7, 3) := by decide +kernel
theorem dX8_isNumber_28 : decode cX8_isNumber 28 = .ok (.iconst 1, 1) := by decide +kernel
theorem dX8_isNumber_29 : decode cX8_isNumber 29 = .ok (.goto 4, 3) := by decide +kernel
theorem dX8_isNumber_32 : decode cX8_isNumber 32 = .ok (.iconst 0, 1) := by decide +kernel
theorem dX8_isNumber_33 : decode cX8_isNumber 33 = .ok (.ireturn, 1) := by decide +kernel
theorem dX8_first_0 : decode cX8_first 0 = .ok (.iconst 0, 1) := by decide +kernel
theorem dX8_first_1 : decode cX8_first 1 = .ok (.istore_n 3, 1) := by decide +kernel
theorem dX8_first_2 : decode cX8_first 2 = .ok (.iconst 0, 1) := by decide +kernel
theorem dX8_first_3 : decode cX8_first 3 = .ok (.istore 4, 2) := by decide +kernel
theorem dX8_first_5 : decode cX8_first 5 = .ok (.iload 4, 2) := by decide +kernel
theorem dX8_first_7 : decode cX8_first 7 = .ok (.iload_n 2, 1) := by decide +kernel
theorem dX8_first_8 : decode cX8_first 8 = .ok (.if_icmp .ge 27, 3) := by decide +kernel
theorem dX8_first_11 : decode cX8_first 11 = .ok (.iload_n 3, 1) := by decide +kernel
theorem dX8_first_12 : decode cX8_first 12 = .ok (.aload_n 0, 1) := by decide +kernel
theorem dX8_first_13 : decode cX8_first 13 = .ok (.getfield 13, 3) := by decide +kernel
theorem dX8_first_16 : decode cX8_first 16 = .ok (.iload 4, 2) := by decide +kernel
theorem dX8_first_18 : decode cX8_first 18 = .ok (.iaload, 1) := by decide +kernel
theorem dX8_first_19 : decode cX8_first 19 = .ok (.aload_n 0, 1) := by decide +kernel
theorem dX8_first_20 : decode cX8_first 20 = .ok (.iload_n 1, 1) := by decide +kernel
theorem dX8_first_21 : decode cX8_first 21 = .ok (.iload 4, 2) := by decide +kernel
theorem dX8_first_23 : decode cX8_first 23 = .ok (.invokevirtual 87, 3) := by decide +kernel
theorem dX8_first_26 : decode cX8_first 26 = .ok (.imul, 1) := by decide +kernel
theorem dX8_first_27 : decode cX8_first 27 = .ok (.iadd, 1) := by decide +kernel
theorem dX8_first_28 : decode cX8_first 28 = .ok (.istore_n 3, 1) := by decide +kernel
theorem dX8_first_29 : decode cX8_first 29 = .ok (.iinc 4 1, 3) := by decide +kernel
theorem dX8_first_32 : decode cX8_first 32 = .ok (.goto (-27), 3) := by decide +kernel
theorem dX8_first_35 : decode cX8_first 35 = .ok (.iload_n 3, 1) := by decide +kernel
theorem dX8_first_36 : decode cX8_first 36 = .ok (.ireturn, 1) := by decide +kernel
theorem dX8_pressOf_0 : decode cX8_pressOf 0 = .ok (.iconst 0, 1) := by decide +kernel
theorem dX8_pressOf_1 : decode cX8_pressOf 1 = .ok (.istore_n 3, 1) := by decide +kernel
theorem dX8_pressOf_2 : decode cX8_pressOf 2 = .ok (.iload_n 2, 1) := by decide +kernel
theorem dX8_pressOf_3 : decode cX8_pressOf 3 = .ok (.aload_n 0, 1) := by decide +kernel
theorem dX8_pressOf_4 : decode cX8_pressOf 4 = .ok (.iload_n 1, 1) := by decide +kernel
theorem dX8_pressOf_5 : decode cX8_pressOf 5 = .ok (.iload_n 3, 1) := by decide +kernel
theorem dX8_pressOf_6 : decode cX8_pressOf 6 = .ok (.iconst 1, 1) := by decide +kernel
theorem dX8_pressOf_7 : decode cX8_pressOf 7 = .ok (.iadd, 1) := by decide +kernel
theorem dX8_pressOf_8 : decode cX8_pressOf 8 = .ok (.invokevirtual 91, 3) := by decide +kernel
theorem dX8_pressOf_11 : decode cX8_pressOf 11 = .ok (.if_icmp .lt 9, 3) := by decide +kernel
theorem dX8_pressOf_14 : decode cX8_pressOf 14 = .ok (.iinc 3 1, 3) := by decide +kernel
theorem dX8_pressOf_17 : decode cX8_pressOf 17 = .ok (.goto (-15), 3) := by decide +kernel
theorem dX8_pressOf_20 : decode cX8_pressOf 20 = .ok (.iload_n 3, 1) := by decide +kernel
theorem dX8_pressOf_21 : decode cX8_pressOf 21 = .ok (.ireturn, 1) := by decide +kernel
theorem dX8_sheetOf_0 : decode cX8_sheetOf 0 = .ok (.aload_n 0, 1) := by decide +kernel
theorem dX8_sheetOf_1 : decode cX8_sheetOf 1 = .ok (.iload_n 1, 1) := by decide +kernel
theorem dX8_sheetOf_2 : decode cX8_sheetOf 2 = .ok (.iload_n 2, 1) := by decide +kernel
theorem dX8_sheetOf_3 : decode cX8_sheetOf 3 = .ok (.invokevirtual 94, 3) := by decide +kernel
theorem dX8_sheetOf_6 : decode cX8_sheetOf 6 = .ok (.istore_n 3, 1) := by decide +kernel
theorem dX8_sheetOf_7 : decode cX8_sheetOf 7 = .ok (.iload_n 2, 1) := by decide +kernel
theorem dX8_sheetOf_8 : decode cX8_sheetOf 8 = .ok (.aload_n 0, 1) := by decide +kernel
theorem dX8_sheetOf_9 : decode cX8_sheetOf 9 = .ok (.iload_n 1, 1) := by decide +kernel
theorem dX8_sheetOf_10 : decode cX8_sheetOf 10 = .ok (.iload_n 3, 1) := by decide +kernel
theorem dX8_sheetOf_11 : decode cX8_sheetOf 11 = .ok (.invokevirtual 91, 3) := by decide +kernel
theorem dX8_sheetOf_14 : decode cX8_sheetOf 14 = .ok (.isub, 1) := by decide +kernel
theorem dX8_sheetOf_15 : decode cX8_sheetOf 15 = .ok (.aload_n 0, 1) := by decide +kernel
theorem dX8_sheetOf_16 : decode cX8_sheetOf 16 = .ok (.iload_n 1, 1) := by decide +kernel
theorem dX8_sheetOf_17 : decode cX8_sheetOf 17 = .ok (.iload_n 3, 1) := by decide +kernel
theorem dX8_sheetOf_18 : decode cX8_sheetOf 18 = .ok (.invokevirtual 87, 3) := by decide +kernel
theorem dX8_sheetOf_21 : decode cX8_sheetOf 21 = .ok (.irem, 1) := by decide +kernel
theorem dX8_sheetOf_22 : decode cX8_sheetOf 22 = .ok (.ireturn, 1) := by decide +kernel
theorem dX8_isPrinted_0 : decode cX8_isPrinted 0 = .ok (.aload_n 0, 1) := by decide +kernel
theorem dX8_isPrinted_1 : decode cX8_isPrinted 1 = .ok (.iload_n 1, 1) := by decide +kernel
theorem dX8_isPrinted_2 : decode cX8_isPrinted 2 = .ok (.iload_n 2, 1) := by decide +kernel
theorem dX8_isPrinted_3 : decode cX8_isPrinted 3 = .ok (.invokevirtual 97, 3) := by decide +kernel
theorem dX8_isPrinted_6 : decode cX8_isPrinted 6 = .ok (.aload_n 0, 1) := by decide +kernel
theorem dX8_isPrinted_7 : decode cX8_isPrinted 7 = .ok (.getfield 19, 3) := by decide +kernel
theorem dX8_isPrinted_10 : decode cX8_isPrinted 10 = .ok (.iconst 4, 1) := by decide +kernel
theorem dX8_isPrinted_11 : decode cX8_isPrinted 11 = .ok (.iload_n 1, 1) := by decide +kernel
theorem dX8_isPrinted_12 : decode cX8_isPrinted 12 = .ok (.imul, 1) := by decide +kernel
theorem dX8_isPrinted_13 : decode cX8_isPrinted 13 = .ok (.aload_n 0, 1) := by decide +kernel
theorem dX8_isPrinted_14 : decode cX8_isPrinted 14 = .ok (.iload_n 1, 1) := by decide +kernel
theorem dX8_isPrinted_15 : decode cX8_isPrinted 15 = .ok (.iload_n 2, 1) := by decide +kernel
theorem dX8_isPrinted_16 : decode cX8_isPrinted 16 = .ok (.invokevirtual 94, 3) := by decide +kernel
theorem dX8_isPrinted_19 : decode cX8_isPrinted 19 = .ok (.iadd, 1) := by decide +kernel
theorem dX8_isPrinted_20 : decode cX8_isPrinted 20 = .ok (.iaload, 1) := by decide +kernel
theorem dX8_isPrinted_21 : decode cX8_isPrinted 21 = .ok (.if_icmp .ge 7, 3) := by decide +kernel
theorem dX8_isPrinted_24 : decode cX8_isPrinted 24 = .ok (.iconst 1, 1) := by decide +kernel
theorem dX8_isPrinted_25 : decode cX8_isPrinted 25 = .ok (.goto 4, 3) := by decide +kernel
theorem dX8_isPrinted_28 : decode cX8_isPrinted 28 = .ok (.iconst 0, 1) := by decide +kernel
theorem dX8_isPrinted_29 : decode cX8_isPrinted 29 = .ok (.ireturn, 1) := by decide +kernel
theorem dX8_starAt_0 : decode cX8_starAt 0 = .ok (.iconst 0, 1) := by decide +kernel
theorem dX8_starAt_1 : decode cX8_starAt 1 = .ok (.istore_n 3, 1) := by decide +kernel
theorem dX8_starAt_2 : decode cX8_starAt 2 = .ok (.iload_n 3, 1) := by decide +kernel
theorem dX8_starAt_3 : decode cX8_starAt 3 = .ok (.aload_n 0, 1) := by decide +kernel
theorem dX8_starAt_4 : decode cX8_starAt 4 = .ok (.getfield 19, 3) := by decide +kernel
theorem dX8_starAt_7 : decode cX8_starAt 7 = .ok (.bipush 111, 2) := by decide +kernel
theorem dX8_starAt_9 : decode cX8_starAt 9 = .ok (.iaload, 1) := by decide +kernel
theorem dX8_starAt_10 : decode cX8_starAt 10 = .ok (.if_icmp .ge 30, 3) := by decide +kernel
theorem dX8_starAt_13 : decode cX8_starAt 13 = .ok (.aload_n 0, 1) := by decide +kernel
theorem dX8_starAt_14 : decode cX8_starAt 14 = .ok (.getfield 19, 3) := by decide +kernel
theorem dX8_starAt_17 : decode cX8_starAt 17 = .ok (.bipush 12, 2) := by decide +kernel
theorem dX8_starAt_19 : decode cX8_starAt 19 = .ok (.iload_n 3, 1) := by decide +kernel
theorem dX8_starAt_20 : decode cX8_starAt 20 = .ok (.iadd, 1) := by decide +kernel
theorem dX8_starAt_21 : decode cX8_starAt 21 = .ok (.iaload, 1) := by decide +kernel
theorem dX8_starAt_22 : decode cX8_starAt 22 = .ok (.sipush 1000, 3) := by decide +kernel
theorem dX8_starAt_25 : decode cX8_starAt 25 = .ok (.iload_n 1, 1) := by decide +kernel
theorem dX8_starAt_26 : decode cX8_starAt 26 = .ok (.imul, 1) := by decide +kernel
theorem dX8_starAt_27 : decode cX8_starAt 27 = .ok (.iload_n 2, 1) := by decide +kernel
theorem dX8_starAt_28 : decode cX8_starAt 28 = .ok (.iadd, 1) := by decide +kernel
theorem dX8_starAt_29 : decode cX8_starAt 29 = .ok (.if_icmp .ne 5, 3) := by decide +kernel
theorem dX8_starAt_32 : decode cX8_starAt 32 = .ok (.iload_n 3, 1) := by decide +kernel
theorem dX8_starAt_33 : decode cX8_starAt 33 = .ok (.ireturn, 1) := by decide +kernel
theorem dX8_starAt_34 : decode cX8_starAt 34 = .ok (.iinc 3 1, 3) := by decide +kernel
theorem dX8_starAt_37 : decode cX8_starAt 37 = .ok (.goto (-35), 3) := by decide +kernel
theorem dX8_starAt_40 : decode cX8_starAt 40 = .ok (.bipush (-4), 2) := by decide +kernel
theorem dX8_starAt_42 : decode cX8_starAt 42 = .ok (.ireturn, 1) := by decide +kernel
theorem dX8_turned_0 : decode cX8_turned 0 = .ok (.iload_n 0, 1) := by decide +kernel
theorem dX8_turned_1 : decode cX8_turned 1 = .ok (.ifCond .ne 7, 3) := by decide +kernel
theorem dX8_turned_4 : decode cX8_turned 4 = .ok (.iconst 1, 1) := by decide +kernel
theorem dX8_turned_5 : decode cX8_turned 5 = .ok (.goto 83, 3) := by decide +kernel
theorem dX8_turned_8 : decode cX8_turned 8 = .ok (.iload_n 0, 1) := by decide +kernel
theorem dX8_turned_9 : decode cX8_turned 9 = .ok (.iconst 1, 1) := by decide +kernel
theorem dX8_turned_10 : decode cX8_turned 10 = .ok (.if_icmp .ne 7, 3) := by decide +kernel
theorem dX8_turned_13 : decode cX8_turned 13 = .ok (.iconst 5, 1) := by decide +kernel
theorem dX8_turned_14 : decode cX8_turned 14 = .ok (.goto 74, 3) := by decide +kernel
theorem dX8_turned_17 : decode cX8_turned 17 = .ok (.iload_n 0, 1) := by decide +kernel
theorem dX8_turned_18 : decode cX8_turned 18 = .ok (.iconst 2, 1) := by decide +kernel
theorem dX8_turned_19 : decode cX8_turned 19 = .ok (.if_icmp .ne 8, 3) := by decide +kernel
theorem dX8_turned_22 : decode cX8_turned 22 = .ok (.bipush 7, 2) := by decide +kernel
theorem dX8_turned_24 : decode cX8_turned 24 = .ok (.goto 64, 3) := by decide +kernel
theorem dX8_turned_27 : decode cX8_turned 27 = .ok (.iload_n 0, 1) := by decide +kernel
theorem dX8_turned_28 : decode cX8_turned 28 = .ok (.iconst 3, 1) := by decide +kernel
theorem dX8_turned_29 : decode cX8_turned 29 = .ok (.if_icmp .ne 8, 3) := by decide +kernel
theorem dX8_turned_32 : decode cX8_turned 32 = .ok (.bipush 6, 2) := by decide +kernel
theorem dX8_turned_34 : decode cX8_turned 34 = .ok (.goto 54, 3) := by decide +kernel
theorem dX8_turned_37 : decode cX8_turned 37 = .ok (.iload_n 0, 1) := by decide +kernel
theorem dX8_turned_38 : decode cX8_turned 38 = .ok (.iconst 4, 1) := by decide +kernel
theorem dX8_turned_39 : decode cX8_turned 39 = .ok (.if_icmp .ne 7, 3) := by decide +kernel
theorem dX8_turned_42 : decode cX8_turned 42 = .ok (.iconst 2, 1) := by decide +kernel
theorem dX8_turned_43 : decode cX8_turned 43 = .ok (.goto 45, 3) := by decide +kernel
theorem dX8_turned_46 : decode cX8_turned 46 = .ok (.iload_n 0, 1) := by decide +kernel
theorem dX8_turned_47 : decode cX8_turned 47 = .ok (.iconst 5, 1) := by decide +kernel
theorem dX8_turned_48 : decode cX8_turned 48 = .ok (.if_icmp .ne 8, 3) := by decide +kernel
theorem dX8_turned_51 : decode cX8_turned 51 = .ok (.bipush 8, 2) := by decide +kernel
theorem dX8_turned_53 : decode cX8_turned 53 = .ok (.goto 35, 3) := by decide +kernel
theorem dX8_turned_56 : decode cX8_turned 56 = .ok (.iload_n 0, 1) := by decide +kernel
theorem dX8_turned_57 : decode cX8_turned 57 = .ok (.bipush 6, 2) := by decide +kernel
theorem dX8_turned_59 : decode cX8_turned 59 = .ok (.if_icmp .ne 7, 3) := by decide +kernel
theorem dX8_turned_62 : decode cX8_turned 62 = .ok (.iconst 3, 1) := by decide +kernel
theorem dX8_turned_63 : decode cX8_turned 63 = .ok (.goto 25, 3) := by decide +kernel
theorem dX8_turned_66 : decode cX8_turned 66 = .ok (.iload_n 0, 1) := by decide +kernel
theorem dX8_turned_67 : decode cX8_turned 67 = .ok (.bipush 7, 2) := by decide +kernel
theorem dX8_turned_69 : decode cX8_turned 69 = .ok (.if_icmp .ne 7, 3) := by decide +kernel
theorem dX8_turned_72 : decode cX8_turned 72 = .ok (.iconst 0, 1) := by decide +kernel
theorem dX8_turned_73 : decode cX8_turned 73 = .ok (.goto 15, 3) := by decide +kernel
theorem dX8_turned_76 : decode cX8_turned 76 = .ok (.iload_n 0, 1) := by decide +kernel
theorem dX8_turned_77 : decode cX8_turned 77 = .ok (.bipush 8, 2) := by decide +kernel
theorem dX8_turned_79 : decode cX8_turned 79 = .ok (.if_icmp .ne 8, 3) := by decide +kernel
theorem dX8_turned_82 : decode cX8_turned 82 = .ok (.bipush 9, 2) := by decide +kernel
theorem dX8_turned_84 : decode cX8_turned 84 = .ok (.goto 4, 3) := by decide +kernel
theorem dX8_turned_87 : decode cX8_turned 87 = .ok (.iconst 4, 1) := by decide +kernel
theorem dX8_turned_88 : decode cX8_turned 88 = .ok (.ireturn, 1) := by decide +kernel
theorem dX8_make_0 : decode cX8_make 0 = .ok (.iload_n 0, 1) := by decide +kernel
theorem dX8_make_1 : decode cX8_make 1 = .ok (.iconst 4, 1) := by decide +kernel
theorem dX8_make_2 : decode cX8_make 2 = .ok (.if_icmp .le 13, 3) := by decide +kernel
theorem dX8_make_5 : decode cX8_make 5 = .ok (.iload_n 0, 1) := by decide +kernel
theorem dX8_make_6 : decode cX8_make 6 = .ok (.iload_n 1, 1) := by decide +kernel
theorem dX8_make_7 : decode cX8_make 7 = .ok (.isub, 1) := by decide +kernel
theorem dX8_make_8 : decode cX8_make 8 = .ok (.iconst 5, 1) := by decide +kernel
theorem dX8_make_9 : decode cX8_make 9 = .ok (.iadd, 1) := by decide +kernel
theorem dX8_make_10 : decode cX8_make 10 = .ok (.iconst 5, 1) := by decide +kernel
theorem dX8_make_11 : decode cX8_make 11 = .ok (.irem, 1) := by decide +kernel
theorem dX8_make_12 : decode cX8_make 12 = .ok (.goto 8, 3) := by decide +kernel
theorem dX8_make_15 : decode cX8_make 15 = .ok (.iload_n 0, 1) := by decide +kernel
theorem dX8_make_16 : decode cX8_make 16 = .ok (.iload_n 1, 1) := by decide +kernel
theorem dX8_make_17 : decode cX8_make 17 = .ok (.iadd, 1) := by decide +kernel
theorem dX8_make_18 : decode cX8_make 18 = .ok (.iconst 5, 1) := by decide +kernel
theorem dX8_make_19 : decode cX8_make 19 = .ok (.irem, 1) := by decide +kernel
theorem dX8_make_20 : decode cX8_make 20 = .ok (.istore_n 2, 1) := by decide +kernel
theorem dX8_make_21 : decode cX8_make 21 = .ok (.iload_n 0, 1) := by decide +kernel
theorem dX8_make_22 : decode cX8_make 22 = .ok (.iconst 4, 1) := by decide +kernel
theorem dX8_make_23 : decode cX8_make 23 = .ok (.if_icmp .le 7, 3) := by decide +kernel
theorem dX8_make_26 : decode cX8_make 26 = .ok (.iconst 1, 1) := by decide +kernel
theorem dX8_make_27 : decode cX8_make 27 = .ok (.goto 4, 3) := by decide +kernel
theorem dX8_make_30 : decode cX8_make 30 = .ok (.iconst 0, 1) := by decide +kernel
theorem dX8_make_31 : decode cX8_make 31 = .ok (.iload_n 1, 1) := by decide +kernel
theorem dX8_make_32 : decode cX8_make 32 = .ok (.iconst 4, 1) := by decide +kernel
theorem dX8_make_33 : decode cX8_make 33 = .ok (.if_icmp .le 7, 3) := by decide +kernel
theorem dX8_make_36 : decode cX8_make 36 = .ok (.iconst 1, 1) := by decide +kernel
theorem dX8_make_37 : decode cX8_make 37 = .ok (.goto 4, 3) := by decide +kernel
theorem dX8_make_40 : decode cX8_make 40 = .ok (.iconst 0, 1) := by decide +kernel
theorem dX8_make_41 : decode cX8_make 41 = .ok (.if_icmp .ne 7, 3) := by decide +kernel
theorem dX8_make_44 : decode cX8_make 44 = .ok (.iload_n 2, 1) := by decide +kernel
theorem dX8_make_45 : decode cX8_make 45 = .ok (.goto 6, 3) := by decide +kernel
theorem dX8_make_48 : decode cX8_make 48 = .ok (.iconst 5, 1) := by decide +kernel
theorem dX8_make_49 : decode cX8_make 49 = .ok (.iload_n 2, 1) := by decide +kernel
theorem dX8_make_50 : decode cX8_make 50 = .ok (.iadd, 1) := by decide +kernel
theorem dX8_make_51 : decode cX8_make 51 = .ok (.ireturn, 1) := by decide +kernel
theorem dX8_checkOf_0 : decode cX8_checkOf 0 = .ok (.iload_n 2, 1) := by decide +kernel
theorem dX8_checkOf_1 : decode cX8_checkOf 1 = .ok (.bipush 100, 2) := by decide +kernel
theorem dX8_checkOf_3 : decode cX8_checkOf 3 = .ok (.idiv, 1) := by decide +kernel
theorem dX8_checkOf_4 : decode cX8_checkOf 4 = .ok (.istore_n 3, 1) := by decide +kernel
theorem dX8_checkOf_5 : decode cX8_checkOf 5 = .ok (.iload_n 2, 1) := by decide +kernel
theorem dX8_checkOf_6 : decode cX8_checkOf 6 = .ok (.bipush 10, 2) := by decide +kernel
theorem dX8_checkOf_8 : decode cX8_checkOf 8 = .ok (.idiv, 1) := by decide +kernel
theorem dX8_checkOf_9 : decode cX8_checkOf 9 = .ok (.bipush 10, 2) := by decide +kernel
theorem dX8_checkOf_11 : decode cX8_checkOf 11 = .ok (.irem, 1) := by decide +kernel
theorem dX8_checkOf_12 : decode cX8_checkOf 12 = .ok (.istore 4, 2) := by decide +kernel
theorem dX8_checkOf_14 : decode cX8_checkOf 14 = .ok (.iload_n 2, 1) := by decide +kernel
theorem dX8_checkOf_15 : decode cX8_checkOf 15 = .ok (.bipush 10, 2) := by decide +kernel
theorem dX8_checkOf_17 : decode cX8_checkOf 17 = .ok (.irem, 1) := by decide +kernel
theorem dX8_checkOf_18 : decode cX8_checkOf 18 = .ok (.istore 5, 2) := by decide +kernel
theorem dX8_checkOf_20 : decode cX8_checkOf 20 = .ok (.iload_n 1, 1) := by decide +kernel
theorem dX8_checkOf_21 : decode cX8_checkOf 21 = .ok (.ifCond .ne 22, 3) := by decide +kernel
theorem dX8_checkOf_24 : decode cX8_checkOf 24 = .ok (.bipush 9, 2) := by decide +kernel
theorem dX8_checkOf_26 : decode cX8_checkOf 26 = .ok (.iload_n 0, 1) := by decide +kernel
theorem dX8_checkOf_27 : decode cX8_checkOf 27 = .ok (.iload_n 3, 1) := by decide +kernel
theorem dX8_checkOf_28 : decode cX8_checkOf 28 = .ok (.iadd, 1) := by decide +kernel
theorem dX8_checkOf_29 : decode cX8_checkOf 29 = .ok (.iload 4, 2) := by decide +kernel
theorem dX8_checkOf_31 : decode cX8_checkOf 31 = .ok (.iadd, 1) := by decide +kernel
theorem dX8_checkOf_32 : decode cX8_checkOf 32 = .ok (.iload 5, 2) := by decide +kernel
theorem dX8_checkOf_34 : decode cX8_checkOf 34 = .ok (.iadd, 1) := by decide +kernel
theorem dX8_checkOf_35 : decode cX8_checkOf 35 = .ok (.bipush 9, 2) := by decide +kernel
theorem dX8_checkOf_37 : decode cX8_checkOf 37 = .ok (.irem, 1) := by decide +kernel
theorem dX8_checkOf_38 : decode cX8_checkOf 38 = .ok (.isub, 1) := by decide +kernel
theorem dX8_checkOf_39 : decode cX8_checkOf 39 = .ok (.bipush 9, 2) := by decide +kernel
theorem dX8_checkOf_41 : decode cX8_checkOf 41 = .ok (.irem, 1) := by decide +kernel
theorem dX8_checkOf_42 : decode cX8_checkOf 42 = .ok (.ireturn, 1) := by decide +kernel
theorem dX8_checkOf_43 : decode cX8_checkOf 43 = .ok (.iload_n 1, 1) := by decide +kernel
theorem dX8_checkOf_44 : decode cX8_checkOf 44 = .ok (.iconst 1, 1) := by decide +kernel
theorem dX8_checkOf_45 : decode cX8_checkOf 45 = .ok (.if_icmp .ne 30, 3) := by decide +kernel
theorem dX8_checkOf_48 : decode cX8_checkOf 48 = .ok (.bipush 11, 2) := by decide +kernel
theorem dX8_checkOf_50 : decode cX8_checkOf 50 = .ok (.iconst 5, 1) := by decide +kernel
theorem dX8_checkOf_51 : decode cX8_checkOf 51 = .ok (.iload_n 0, 1) := by decide +kernel
theorem dX8_checkOf_52 : decode cX8_checkOf 52 = .ok (.imul, 1) := by decide +kernel
theorem dX8_checkOf_53 : decode cX8_checkOf 53 = .ok (.iconst 4, 1) := by decide +kernel
theorem dX8_checkOf_54 : decode cX8_checkOf 54 = .ok (.iload_n 3, 1) := by decide +kernel
theorem dX8_checkOf_55 : decode cX8_checkOf 55 = .ok (.imul, 1) := by decide +kernel
theorem dX8_checkOf_56 : decode cX8_checkOf 56 = .ok (.iadd, 1) := by decide +kernel
theorem dX8_checkOf_57 : decode cX8_checkOf 57 = .ok (.iconst 3, 1) := by decide +kernel
theorem dX8_checkOf_58 : decode cX8_checkOf 58 = .ok (.iload 4, 2) := by decide +kernel
theorem dX8_checkOf_60 : decode cX8_checkOf 60 = .ok (.imul, 1) := by decide +kernel
theorem dX8_checkOf_61 : decode cX8_checkOf 61 = .ok (.iadd, 1) := by decide +kernel
theorem dX8_checkOf_62 : decode cX8_checkOf 62 = .ok (.iconst 2, 1) := by decide +kernel
theorem dX8_checkOf_63 : decode cX8_checkOf 63 = .ok (.iload 5, 2) := by decide +kernel
theorem dX8_checkOf_65 : decode cX8_checkOf 65 = .ok (.imul, 1) := by decide +kernel
theorem dX8_checkOf_66 : decode cX8_checkOf 66 = .ok (.iadd, 1) := by decide +kernel
theorem dX8_checkOf_67 : decode cX8_checkOf 67 = .ok (.bipush 11, 2) := by decide +kernel
theorem dX8_checkOf_69 : decode cX8_checkOf 69 = .ok (.irem, 1) := by decide +kernel
theorem dX8_checkOf_70 : decode cX8_checkOf 70 = .ok (.isub, 1) := by decide +kernel
theorem dX8_checkOf_71 : decode cX8_checkOf 71 = .ok (.bipush 11, 2) := by decide +kernel
theorem dX8_checkOf_73 : decode cX8_checkOf 73 = .ok (.irem, 1) := by decide +kernel
theorem dX8_checkOf_74 : decode cX8_checkOf 74 = .ok (.ireturn, 1) := by decide +kernel
theorem dX8_checkOf_75 : decode cX8_checkOf 75 = .ok (.iload_n 0, 1) := by decide +kernel
theorem dX8_checkOf_76 : decode cX8_checkOf 76 = .ok (.bipush 10, 2) := by decide +kernel
theorem dX8_checkOf_78 : decode cX8_checkOf 78 = .ok (.irem, 1) := by decide +kernel
theorem dX8_checkOf_79 : decode cX8_checkOf 79 = .ok (.iload_n 3, 1) := by decide +kernel
theorem dX8_checkOf_80 : decode cX8_checkOf 80 = .ok (.invokestatic 100, 3) := by decide +kernel
theorem dX8_checkOf_83 : decode cX8_checkOf 83 = .ok (.invokestatic 103, 3) := by decide +kernel
theorem dX8_checkOf_86 : decode cX8_checkOf 86 = .ok (.istore 6, 2) := by decide +kernel
theorem dX8_checkOf_88 : decode cX8_checkOf 88 = .ok (.iload 6, 2) := by decide +kernel
theorem dX8_checkOf_90 : decode cX8_checkOf 90 = .ok (.iload 4, 2) := by decide +kernel
theorem dX8_checkOf_92 : decode cX8_checkOf 92 = .ok (.invokestatic 100, 3) := by decide +kernel
theorem dX8_checkOf_95 : decode cX8_checkOf 95 = .ok (.invokestatic 100, 3) := by decide +kernel
theorem dX8_checkOf_98 : decode cX8_checkOf 98 = .ok (.invokestatic 103, 3) := by decide +kernel
theorem dX8_checkOf_101 : decode cX8_checkOf 101 = .ok (.istore 6, 2) := by decide +kernel
theorem dX8_checkOf_103 : decode cX8_checkOf 103 = .ok (.iload 6, 2) := by decide +kernel
theorem dX8_checkOf_105 : decode cX8_checkOf 105 = .ok (.iload 5, 2) := by decide +kernel
theorem dX8_checkOf_107 : decode cX8_checkOf 107 = .ok (.invokestatic 100, 3) := by decide +kernel
theorem dX8_checkOf_110 : decode cX8_checkOf 110 = .ok (.invokestatic 100, 3) := by decide +kernel
theorem dX8_checkOf_113 : decode cX8_checkOf 113 = .ok (.invokestatic 100, 3) := by decide +kernel
theorem dX8_checkOf_116 : decode cX8_checkOf 116 = .ok (.invokestatic 103, 3) := by decide +kernel
theorem dX8_checkOf_119 : decode cX8_checkOf 119 = .ok (.istore 6, 2) := by decide +kernel
theorem dX8_checkOf_121 : decode cX8_checkOf 121 = .ok (.iconst 0, 1) := by decide +kernel
theorem dX8_checkOf_122 : decode cX8_checkOf 122 = .ok (.istore 7, 2) := by decide +kernel
theorem dX8_checkOf_124 : decode cX8_checkOf 124 = .ok (.iload 6, 2) := by decide +kernel
theorem dX8_checkOf_126 : decode cX8_checkOf 126 = .ok (.iload 7, 2) := by decide +kernel
theorem dX8_checkOf_128 : decode cX8_checkOf 128 = .ok (.invokestatic 103, 3) := by decide +kernel
theorem dX8_checkOf_131 : decode cX8_checkOf 131 = .ok (.ifCond .eq 9, 3) := by decide +kernel
theorem dX8_checkOf_134 : decode cX8_checkOf 134 = .ok (.iinc 7 1, 3) := by decide +kernel
theorem dX8_checkOf_137 : decode cX8_checkOf 137 = .ok (.goto (-13), 3) := by decide +kernel
theorem dX8_checkOf_140 : decode cX8_checkOf 140 = .ok (.iload 7, 2) := by decide +kernel
theorem dX8_checkOf_142 : decode cX8_checkOf 142 = .ok (.ireturn, 1) := by decide +kernel
theorem dX8_checkIn_0 : decode cX8_checkIn 0 = .ok (.aload_n 0, 1) := by decide +kernel
theorem dX8_checkIn_1 : decode cX8_checkIn 1 = .ok (.getfield 13, 3) := by decide +kernel
theorem dX8_checkIn_4 : decode cX8_checkIn 4 = .ok (.iconst 4, 1) := by decide +kernel
theorem dX8_checkIn_5 : decode cX8_checkIn 5 = .ok (.bipush 6, 2) := by decide +kernel
theorem dX8_checkIn_7 : decode cX8_checkIn 7 = .ok (.iload_n 1, 1) := by decide +kernel
theorem dX8_checkIn_8 : decode cX8_checkIn 8 = .ok (.imul, 1) := by decide +kernel
theorem dX8_checkIn_9 : decode cX8_checkIn 9 = .ok (.iadd, 1) := by decide +kernel
theorem dX8_checkIn_10 : decode cX8_checkIn 10 = .ok (.iaload, 1) := by decide +kernel
theorem dX8_checkIn_11 : decode cX8_checkIn 11 = .ok (.aload_n 0, 1) := by decide +kernel
theorem dX8_checkIn_12 : decode cX8_checkIn 12 = .ok (.getfield 13, 3) := by decide +kernel
theorem dX8_checkIn_15 : decode cX8_checkIn 15 = .ok (.iconst 4, 1) := by decide +kernel
theorem dX8_checkIn_16 : decode cX8_checkIn 16 = .ok (.bipush 6, 2) := by decide +kernel
theorem dX8_checkIn_18 : decode cX8_checkIn 18 = .ok (.iload_n 1, 1) := by decide +kernel
theorem dX8_checkIn_19 : decode cX8_checkIn 19 = .ok (.imul, 1) := by decide +kernel
theorem dX8_checkIn_20 : decode cX8_checkIn 20 = .ok (.iadd, 1) := by decide +kernel
theorem dX8_checkIn_21 : decode cX8_checkIn 21 = .ok (.iconst 1, 1) := by decide +kernel
theorem dX8_checkIn_22 : decode cX8_checkIn 22 = .ok (.iadd, 1) := by decide +kernel
theorem dX8_checkIn_23 : decode cX8_checkIn 23 = .ok (.iaload, 1) := by decide +kernel
theorem dX8_checkIn_24 : decode cX8_checkIn 24 = .ok (.iload_n 2, 1) := by decide +kernel
theorem dX8_checkIn_25 : decode cX8_checkIn 25 = .ok (.invokestatic 106, 3) := by decide +kernel
theorem dX8_checkIn_28 : decode cX8_checkIn 28 = .ok (.ireturn, 1) := by decide +kernel
theorem dX8_check_0 : decode cX8_check 0 = .ok (.aload_n 0, 1) := by decide +kernel
theorem dX8_check_1 : decode cX8_check 1 = .ok (.iload_n 1, 1) := by decide +kernel
theorem dX8_check_2 : decode cX8_check 2 = .ok (.invokevirtual 84, 3) := by decide +kernel
theorem dX8_check_5 : decode cX8_check 5 = .ok (.ifCond .eq 24, 3) := by decide +kernel
theorem dX8_check_8 : decode cX8_check 8 = .ok (.iload_n 2, 1) := by decide +kernel
theorem dX8_check_9 : decode cX8_check 9 = .ok (.i2l, 1) := by decide +kernel
theorem dX8_check_10 : decode cX8_check 10 = .ok (.lconst 0, 1) := by decide +kernel
theorem dX8_check_11 : decode cX8_check 11 = .ok (.ldc2_w 68, 3) := by decide +kernel
theorem dX8_check_14 : decode cX8_check 14 = .ok (.invokestatic 33, 3) := by decide +kernel
theorem dX8_check_17 : decode cX8_check 17 = .ok (.ifCond .eq 12, 3) := by decide +kernel
theorem dX8_check_20 : decode cX8_check 20 = .ok (.aload_n 0, 1) := by decide +kernel
theorem dX8_check_21 : decode cX8_check 21 = .ok (.iload_n 1, 1) := by decide +kernel
theorem dX8_check_22 : decode cX8_check 22 = .ok (.iload_n 2, 1) := by decide +kernel
theorem dX8_check_23 : decode cX8_check 23 = .ok (.invokevirtual 110, 3) := by decide +kernel
