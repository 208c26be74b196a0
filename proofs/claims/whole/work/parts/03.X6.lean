theorem dX6_init_0 : decode cX6_init 0 = .ok (.aload_n 0, 1) := by decide +kernel
theorem dX6_init_1 : decode cX6_init 1 = .ok (.invokespecial 3, 3) := by decide +kernel
theorem dX6_init_4 : decode cX6_init 4 = .ok (.aload_n 0, 1) := by decide +kernel
theorem dX6_init_5 : decode cX6_init 5 = .ok (.sipush 200, 3) := by decide +kernel
theorem dX6_init_8 : decode cX6_init 8 = .ok (.newarray .int, 2) := by decide +kernel
theorem dX6_init_10 : decode cX6_init 10 = .ok (.putfield 9, 3) := by decide +kernel
theorem dX6_init_13 : decode cX6_init 13 = .ok (.return_, 1) := by decide +kernel
theorem dX6_append_0 : decode cX6_append 0 = .ok (.aload_n 0, 1) := by decide +kernel
theorem dX6_append_1 : decode cX6_append 1 = .ok (.getfield 15, 3) := by decide +kernel
theorem dX6_append_4 : decode cX6_append 4 = .ok (.sipush 200, 3) := by decide +kernel
theorem dX6_append_7 : decode cX6_append 7 = .ok (.if_icmp .lt 5, 3) := by decide +kernel
theorem dX6_append_10 : decode cX6_append 10 = .ok (.iconst 0, 1) := by decide +kernel
theorem dX6_append_11 : decode cX6_append 11 = .ok (.ireturn, 1) := by decide +kernel
theorem dX6_append_12 : decode cX6_append 12 = .ok (.aload_n 0, 1) := by decide +kernel
theorem dX6_append_13 : decode cX6_append 13 = .ok (.getfield 9, 3) := by decide +kernel
theorem dX6_append_16 : decode cX6_append 16 = .ok (.aload_n 0, 1) := by decide +kernel
theorem dX6_append_17 : decode cX6_append 17 = .ok (.getfield 15, 3) := by decide +kernel
theorem dX6_append_20 : decode cX6_append 20 = .ok (.iload_n 1, 1) := by decide +kernel
theorem dX6_append_21 : decode cX6_append 21 = .ok (.iastore, 1) := by decide +kernel
theorem dX6_append_22 : decode cX6_append 22 = .ok (.aload_n 0, 1) := by decide +kernel
theorem dX6_append_23 : decode cX6_append 23 = .ok (.dup, 1) := by decide +kernel
theorem dX6_append_24 : decode cX6_append 24 = .ok (.getfield 15, 3) := by decide +kernel
theorem dX6_append_27 : decode cX6_append 27 = .ok (.iconst 1, 1) := by decide +kernel
theorem dX6_append_28 : decode cX6_append 28 = .ok (.iadd, 1) := by decide +kernel
theorem dX6_append_29 : decode cX6_append 29 = .ok (.putfield 15, 3) := by decide +kernel
theorem dX6_append_32 : decode cX6_append 32 = .ok (.iconst 1, 1) := by decide +kernel
theorem dX6_append_33 : decode cX6_append 33 = .ok (.ireturn, 1) := by decide +kernel
theorem dX6_clear_0 : decode cX6_clear 0 = .ok (.aload_n 0, 1) := by decide +kernel
theorem dX6_clear_1 : decode cX6_clear 1 = .ok (.iconst 0, 1) := by decide +kernel
theorem dX6_clear_2 : decode cX6_clear 2 = .ok (.putfield 15, 3) := by decide +kernel
theorem dX6_clear_5 : decode cX6_clear 5 = .ok (.return_, 1) := by decide +kernel
theorem dX6_readInto_0 : decode cX6_readInto 0 = .ok (.aload_n 1, 1) := by decide +kernel
theorem dX6_readInto_1 : decode cX6_readInto 1 = .ok (.invokevirtual 19, 3) := by decide +kernel
theorem dX6_readInto_4 : decode cX6_readInto 4 = .ok (.aload_n 0, 1) := by decide +kernel
theorem dX6_readInto_5 : decode cX6_readInto 5 = .ok (.iconst 0, 1) := by decide +kernel
theorem dX6_readInto_6 : decode cX6_readInto 6 = .ok (.putfield 24, 3) := by decide +kernel
theorem dX6_readInto_9 : decode cX6_readInto 9 = .ok (.iconst 0, 1) := by decide +kernel
theorem dX6_readInto_10 : decode cX6_readInto 10 = .ok (.istore_n 2, 1) := by decide +kernel
theorem dX6_readInto_11 : decode cX6_readInto 11 = .ok (.iload_n 2, 1) := by decide +kernel
theorem dX6_readInto_12 : decode cX6_readInto 12 = .ok (.sipush 200, 3) := by decide +kernel
theorem dX6_readInto_15 : decode cX6_readInto 15 = .ok (.if_icmp .ge 35, 3) := by decide +kernel
theorem dX6_readInto_18 : decode cX6_readInto 18 = .ok (.aload_n 0, 1) := by decide +kernel
theorem dX6_readInto_19 : decode cX6_readInto 19 = .ok (.getfield 24, 3) := by decide +kernel
theorem dX6_readInto_22 : decode cX6_readInto 22 = .ok (.aload_n 0, 1) := by decide +kernel
theorem dX6_readInto_23 : decode cX6_readInto 23 = .ok (.getfield 15, 3) := by decide +kernel
theorem dX6_readInto_26 : decode cX6_readInto 26 = .ok (.if_icmp .ge 24, 3) := by decide +kernel
theorem dX6_readInto_29 : decode cX6_readInto 29 = .ok (.aload_n 0, 1) := by decide +kernel
theorem dX6_readInto_30 : decode cX6_readInto 30 = .ok (.getfield 24, 3) := by decide +kernel
theorem dX6_readInto_33 : decode cX6_readInto 33 = .ok (.istore_n 3, 1) := by decide +kernel
theorem dX6_readInto_34 : decode cX6_readInto 34 = .ok (.aload_n 0, 1) := by decide +kernel
theorem dX6_readInto_35 : decode cX6_readInto 35 = .ok (.aload_n 1, 1) := by decide +kernel
theorem dX6_readInto_36 : decode cX6_readInto 36 = .ok (.invokevirtual 27, 3) := by decide +kernel
theorem dX6_readInto_39 : decode cX6_readInto 39 = .ok (.ifCond .ne 5, 3) := by decide +kernel
theorem dX6_readInto_42 : decode cX6_readInto 42 = .ok (.iload_n 3, 1) := by decide +kernel
theorem dX6_readInto_43 : decode cX6_readInto 43 = .ok (.ireturn, 1) := by decide +kernel
theorem dX6_readInto_44 : decode cX6_readInto 44 = .ok (.iinc 2 1, 3) := by decide +kernel
theorem dX6_readInto_47 : decode cX6_readInto 47 = .ok (.goto (-36), 3) := by decide +kernel
theorem dX6_readInto_50 : decode cX6_readInto 50 = .ok (.bipush (-4), 2) := by decide +kernel
theorem dX6_readInto_52 : decode cX6_readInto 52 = .ok (.ireturn, 1) := by decide +kernel
theorem dX6_readItem_0 : decode cX6_readItem 0 = .ok (.aload_n 0, 1) := by decide +kernel
theorem dX6_readItem_1 : decode cX6_readItem 1 = .ok (.bipush 112, 2) := by decide +kernel
theorem dX6_readItem_3 : decode cX6_readItem 3 = .ok (.invokevirtual 31, 3) := by decide +kernel
theorem dX6_readItem_6 : decode cX6_readItem 6 = .ok (.ifCond .eq 9, 3) := by decide +kernel
theorem dX6_readItem_9 : decode cX6_readItem 9 = .ok (.aload_n 0, 1) := by decide +kernel
theorem dX6_readItem_10 : decode cX6_readItem 10 = .ok (.aload_n 1, 1) := by decide +kernel
theorem dX6_readItem_11 : decode cX6_readItem 11 = .ok (.invokevirtual 35, 3) := by decide +kernel
theorem dX6_readItem_14 : decode cX6_readItem 14 = .ok (.ireturn, 1) := by decide +kernel
theorem dX6_readItem_15 : decode cX6_readItem 15 = .ok (.aload_n 0, 1) := by decide +kernel
theorem dX6_readItem_16 : decode cX6_readItem 16 = .ok (.bipush 115, 2) := by decide +kernel
theorem dX6_readItem_18 : decode cX6_readItem 18 = .ok (.invokevirtual 31, 3) := by decide +kernel
theorem dX6_readItem_21 : decode cX6_readItem 21 = .ok (.ifCond .eq 9, 3) := by decide +kernel
theorem dX6_readItem_24 : decode cX6_readItem 24 = .ok (.aload_n 0, 1) := by decide +kernel
theorem dX6_readItem_25 : decode cX6_readItem 25 = .ok (.aload_n 1, 1) := by decide +kernel
theorem dX6_readItem_26 : decode cX6_readItem 26 = .ok (.invokevirtual 38, 3) := by decide +kernel
theorem dX6_readItem_29 : decode cX6_readItem 29 = .ok (.ireturn, 1) := by decide +kernel
theorem dX6_readItem_30 : decode cX6_readItem 30 = .ok (.aload_n 0, 1) := by decide +kernel
theorem dX6_readItem_31 : decode cX6_readItem 31 = .ok (.bipush 122, 2) := by decide +kernel
theorem dX6_readItem_33 : decode cX6_readItem 33 = .ok (.invokevirtual 31, 3) := by decide +kernel
theorem dX6_readItem_36 : decode cX6_readItem 36 = .ok (.ifCond .eq 15, 3) := by decide +kernel
theorem dX6_readItem_39 : decode cX6_readItem 39 = .ok (.aload_n 0, 1) := by decide +kernel
theorem dX6_readItem_40 : decode cX6_readItem 40 = .ok (.aload_n 1, 1) := by decide +kernel
theorem dX6_readItem_41 : decode cX6_readItem 41 = .ok (.invokevirtual 41, 3) := by decide +kernel
theorem dX6_readItem_44 : decode cX6_readItem 44 = .ok (.ifCond .eq 7, 3) := by decide +kernel
theorem dX6_readItem_47 : decode cX6_readItem 47 = .ok (.iconst 1, 1) := by decide +kernel
theorem dX6_readItem_48 : decode cX6_readItem 48 = .ok (.goto 4, 3) := by decide +kernel
theorem dX6_readItem_51 : decode cX6_readItem 51 = .ok (.iconst 0, 1) := by decide +kernel
theorem dX6_readItem_52 : decode cX6_readItem 52 = .ok (.ireturn, 1) := by decide +kernel
theorem dX6_readPress_0 : decode cX6_readPress 0 = .ok (.aload_n 0, 1) := by decide +kernel
theorem dX6_readPress_1 : decode cX6_readPress 1 = .ok (.invokevirtual 44, 3) := by decide +kernel
theorem dX6_readPress_4 : decode cX6_readPress 4 = .ok (.istore_n 2, 1) := by decide +kernel
theorem dX6_readPress_5 : decode cX6_readPress 5 = .ok (.iload_n 2, 1) := by decide +kernel
theorem dX6_readPress_6 : decode cX6_readPress 6 = .ok (.iconst 1, 1) := by decide +kernel
theorem dX6_readPress_7 : decode cX6_readPress 7 = .ok (.bipush 8, 2) := by decide +kernel
theorem dX6_readPress_9 : decode cX6_readPress 9 = .ok (.invokestatic 48, 3) := by decide +kernel
theorem dX6_readPress_12 : decode cX6_readPress 12 = .ok (.ifCond .eq 24, 3) := by decide +kernel
theorem dX6_readPress_15 : decode cX6_readPress 15 = .ok (.aload_n 0, 1) := by decide +kernel
theorem dX6_readPress_16 : decode cX6_readPress 16 = .ok (.bipush 59, 2) := by decide +kernel
theorem dX6_readPress_18 : decode cX6_readPress 18 = .ok (.invokevirtual 31, 3) := by decide +kernel
theorem dX6_readPress_21 : decode cX6_readPress 21 = .ok (.ifCond .eq 15, 3) := by decide +kernel
theorem dX6_readPress_24 : decode cX6_readPress 24 = .ok (.aload_n 1, 1) := by decide +kernel
theorem dX6_readPress_25 : decode cX6_readPress 25 = .ok (.iload_n 2, 1) := by decide +kernel
theorem dX6_readPress_26 : decode cX6_readPress 26 = .ok (.invokevirtual 52, 3) := by decide +kernel
theorem dX6_readPress_29 : decode cX6_readPress 29 = .ok (.ifCond .eq 7, 3) := by decide +kernel
theorem dX6_readPress_32 : decode cX6_readPress 32 = .ok (.iconst 1, 1) := by decide +kernel
theorem dX6_readPress_33 : decode cX6_readPress 33 = .ok (.goto 4, 3) := by decide +kernel
theorem dX6_readPress_36 : decode cX6_readPress 36 = .ok (.iconst 0, 1) := by decide +kernel
theorem dX6_readPress_37 : decode cX6_readPress 37 = .ok (.ireturn, 1) := by decide +kernel
theorem dX6_readStars_0 : decode cX6_readStars 0 = .ok (.aload_n 0, 1) := by decide +kernel
theorem dX6_readStars_1 : decode cX6_readStars 1 = .ok (.invokevirtual 44, 3) := by decide +kernel
theorem dX6_readStars_4 : decode cX6_readStars 4 = .ok (.istore_n 2, 1) := by decide +kernel
theorem dX6_readStars_5 : decode cX6_readStars 5 = .ok (.iload_n 2, 1) := by decide +kernel
theorem dX6_readStars_6 : decode cX6_readStars 6 = .ok (.iconst 0, 1) := by decide +kernel
theorem dX6_readStars_7 : decode cX6_readStars 7 = .ok (.bipush 99, 2) := by decide +kernel
theorem dX6_readStars_9 : decode cX6_readStars 9 = .ok (.invokestatic 48, 3) := by decide +kernel
theorem dX6_readStars_12 : decode cX6_readStars 12 = .ok (.ifCond .eq 12, 3) := by decide +kernel
theorem dX6_readStars_15 : decode cX6_readStars 15 = .ok (.aload_n 0, 1) := by decide +kernel
theorem dX6_readStars_16 : decode cX6_readStars 16 = .ok (.bipush 59, 2) := by decide +kernel
theorem dX6_readStars_18 : decode cX6_readStars 18 = .ok (.invokevirtual 31, 3) := by decide +kernel
theorem dX6_readStars_21 : decode cX6_readStars 21 = .ok (.ifCond .ne 5, 3) := by decide +kernel
theorem dX6_readStars_24 : decode cX6_readStars 24 = .ok (.iconst 0, 1) := by decide +kernel
theorem dX6_readStars_25 : decode cX6_readStars 25 = .ok (.ireturn, 1) := by decide +kernel
theorem dX6_readStars_26 : decode cX6_readStars 26 = .ok (.aload_n 1, 1) := by decide +kernel
theorem dX6_readStars_27 : decode cX6_readStars 27 = .ok (.iload_n 2, 1) := by decide +kernel
theorem dX6_readStars_28 : decode cX6_readStars 28 = .ok (.putfield 55, 3) := by decide +kernel
theorem dX6_readStars_31 : decode cX6_readStars 31 = .ok (.iconst 1, 1) := by decide +kernel
theorem dX6_readStars_32 : decode cX6_readStars 32 = .ok (.ireturn, 1) := by decide +kernel
theorem dX6_readSeries_0 : decode cX6_readSeries 0 = .ok (.aload_n 1, 1) := by decide +kernel
theorem dX6_readSeries_1 : decode cX6_readSeries 1 = .ok (.invokevirtual 58, 3) := by decide +kernel
theorem dX6_readSeries_4 : decode cX6_readSeries 4 = .ok (.astore_n 2, 1) := by decide +kernel
theorem dX6_readSeries_5 : decode cX6_readSeries 5 = .ok (.aload_n 0, 1) := by decide +kernel
theorem dX6_readSeries_6 : decode cX6_readSeries 6 = .ok (.invokevirtual 62, 3) := by decide +kernel
theorem dX6_readSeries_9 : decode cX6_readSeries 9 = .ok (.istore_n 3, 1) := by decide +kernel
theorem dX6_readSeries_10 : decode cX6_readSeries 10 = .ok (.aload_n 2, 1) := by decide +kernel
theorem dX6_readSeries_11 : decode cX6_readSeries 11 = .ok (.ifnull 28, 3) := by decide +kernel
theorem dX6_readSeries_14 : decode cX6_readSeries 14 = .ok (.iload_n 3, 1) := by decide +kernel
theorem dX6_readSeries_15 : decode cX6_readSeries 15 = .ok (.bipush (-4), 2) := by decide +kernel
theorem dX6_readSeries_17 : decode cX6_readSeries 17 = .ok (.if_icmp .eq 22, 3) := by decide +kernel
theorem dX6_readSeries_20 : decode cX6_readSeries 20 = .ok (.aload_n 1, 1) := by decide +kernel
theorem dX6_readSeries_21 : decode cX6_readSeries 21 = .ok (.iload_n 3, 1) := by decide +kernel
theorem dX6_readSeries_22 : decode cX6_readSeries 22 = .ok (.invokevirtual 65, 3) := by decide +kernel
theorem dX6_readSeries_25 : decode cX6_readSeries 25 = .ok (.bipush (-4), 2) := by decide +kernel
theorem dX6_readSeries_27 : decode cX6_readSeries 27 = .ok (.if_icmp .ne 12, 3) := by decide +kernel
theorem dX6_readSeries_30 : decode cX6_readSeries 30 = .ok (.aload_n 0, 1) := by decide +kernel
theorem dX6_readSeries_31 : decode cX6_readSeries 31 = .ok (.bipush 44, 2) := by decide +kernel
theorem dX6_readSeries_33 : decode cX6_readSeries 33 = .ok (.invokevirtual 31, 3) := by decide +kernel
theorem dX6_readSeries_36 : decode cX6_readSeries 36 = .ok (.ifCond .ne 5, 3) := by decide +kernel
theorem dX6_readSeries_39 : decode cX6_readSeries 39 = .ok (.iconst 0, 1) := by decide +kernel
theorem dX6_readSeries_40 : decode cX6_readSeries 40 = .ok (.ireturn, 1) := by decide +kernel
theorem dX6_readSeries_41 : decode cX6_readSeries 41 = .ok (.aload_n 0, 1) := by decide +kernel
theorem dX6_readSeries_42 : decode cX6_readSeries 42 = .ok (.invokevirtual 44, 3) := by decide +kernel
theorem dX6_readSeries_45 : decode cX6_readSeries 45 = .ok (.istore 4, 2) := by decide +kernel
theorem dX6_readSeries_47 : decode cX6_readSeries 47 = .ok (.iload 4, 2) := by decide +kernel
theorem dX6_readSeries_49 : decode cX6_readSeries 49 = .ok (.iconst 0, 1) := by decide +kernel
theorem dX6_readSeries_50 : decode cX6_readSeries 50 = .ok (.iconst 2, 1) := by decide +kernel
theorem dX6_readSeries_51 : decode cX6_readSeries 51 = .ok (.invokestatic 48, 3) := by decide +kernel
theorem dX6_readSeries_54 : decode cX6_readSeries 54 = .ok (.ifCond .ne 5, 3) := by decide +kernel
theorem dX6_readSeries_57 : decode cX6_readSeries 57 = .ok (.iconst 0, 1) := by decide +kernel
theorem dX6_readSeries_58 : decode cX6_readSeries 58 = .ok (.ireturn, 1) := by decide +kernel
theorem dX6_readSeries_59 : decode cX6_readSeries 59 = .ok (.aload_n 2, 1) := by decide +kernel
theorem dX6_readSeries_60 : decode cX6_readSeries 60 = .ok (.iload_n 3, 1) := by decide +kernel
theorem dX6_readSeries_61 : decode cX6_readSeries 61 = .ok (.iload 4, 2) := by decide +kernel
theorem dX6_readSeries_63 : decode cX6_readSeries 63 = .ok (.invokevirtual 69, 3) := by decide +kernel
theorem dX6_readSeries_66 : decode cX6_readSeries 66 = .ok (.iconst 0, 1) := by decide +kernel
theorem dX6_readSeries_67 : decode cX6_readSeries 67 = .ok (.istore 5, 2) := by decide +kernel
theorem dX6_readSeries_69 : decode cX6_readSeries 69 = .ok (.iload 5, 2) := by decide +kernel
theorem dX6_readSeries_71 : decode cX6_readSeries 71 = .ok (.aload_n 1, 1) := by decide +kernel
theorem dX6_readSeries_72 : decode cX6_readSeries 72 = .ok (.getfield 75, 3) := by decide +kernel
theorem dX6_readSeries_75 : decode cX6_readSeries 75 = .ok (.if_icmp .ge 55, 3) := by decide +kernel
theorem dX6_readSeries_78 : decode cX6_readSeries 78 = .ok (.aload_n 0, 1) := by decide +kernel
theorem dX6_readSeries_79 : decode cX6_readSeries 79 = .ok (.bipush 44, 2) := by decide +kernel
theorem dX6_readSeries_81 : decode cX6_readSeries 81 = .ok (.invokevirtual 31, 3) := by decide +kernel
theorem dX6_readSeries_84 : decode cX6_readSeries 84 = .ok (.ifCond .eq 10, 3) := by decide +kernel
theorem dX6_readSeries_87 : decode cX6_readSeries 87 = .ok (.aload_n 0, 1) := by decide +kernel
theorem dX6_readSeries_88 : decode cX6_readSeries 88 = .ok (.invokevirtual 44, 3) := by decide +kernel
theorem dX6_readSeries_91 : decode cX6_readSeries 91 = .ok (.goto 5, 3) := by decide +kernel
theorem dX6_readSeries_94 : decode cX6_readSeries 94 = .ok (.bipush (-4), 2) := by decide +kernel
theorem dX6_readSeries_96 : decode cX6_readSeries 96 = .ok (.istore 6, 2) := by decide +kernel
theorem dX6_readSeries_98 : decode cX6_readSeries 98 = .ok (.iload 6, 2) := by decide +kernel
theorem dX6_readSeries_100 : decode cX6_readSeries 100 = .ok (.iconst 0, 1) := by decide +kernel
theorem dX6_readSeries_101 : decode cX6_readSeries 101 = .ok (.bipush 40, 2) := by decide +kernel
theorem dX6_readSeries_103 : decode cX6_readSeries 103 = .ok (.invokestatic 48, 3) := by decide +kernel
theorem dX6_readSeries_106 : decode cX6_readSeries 106 = .ok (.ifCond .ne 5, 3) := by decide +kernel
theorem dX6_readSeries_109 : decode cX6_readSeries 109 = .ok (.iconst 0, 1) := by decide +kernel
theorem dX6_readSeries_110 : decode cX6_readSeries 110 = .ok (.ireturn, 1) := by decide +kernel
theorem dX6_readSeries_111 : decode cX6_readSeries 111 = .ok (.aload_n 2, 1) := by decide +kernel
theorem dX6_readSeries_112 : decode cX6_readSeries 112 = .ok (.aload_n 1, 1) := by decide +kernel
theorem dX6_readSeries_113 : decode cX6_readSeries 113 = .ok (.getfield 78, 3) := by decide +kernel
theorem dX6_readSeries_116 : decode cX6_readSeries 116 = .ok (.iload 5, 2) := by decide +kernel
theorem dX6_readSeries_118 : decode cX6_readSeries 118 = .ok (.iaload, 1) := by decide +kernel
theorem dX6_readSeries_119 : decode cX6_readSeries 119 = .ok (.iload 6, 2) := by decide +kernel
theorem dX6_readSeries_121 : decode cX6_readSeries 121 = .ok (.invokevirtual 81, 3) := by decide +kernel
theorem dX6_readSeries_124 : decode cX6_readSeries 124 = .ok (.iinc 5 1, 3) := by decide +kernel
theorem dX6_readSeries_127 : decode cX6_readSeries 127 = .ok (.goto (-58), 3) := by decide +kernel
theorem dX6_readSeries_130 : decode cX6_readSeries 130 = .ok (.aload_n 0, 1) := by decide +kernel
theorem dX6_readSeries_131 : decode cX6_readSeries 131 = .ok (.bipush 59, 2) := by decide +kernel
theorem dX6_readSeries_133 : decode cX6_readSeries 133 = .ok (.invokevirtual 31, 3) := by decide +kernel
theorem dX6_readSeries_136 : decode cX6_readSeries 136 = .ok (.ifCond .eq 17, 3) := by decide +kernel
theorem dX6_readSeries_139 : decode cX6_readSeries 139 = .ok (.aload_n 2, 1) := by decide +kernel
theorem dX6_readSeries_140 : decode cX6_readSeries 140 = .ok (.getfield 84, 3) := by decide +kernel
theorem dX6_readSeries_143 : decode cX6_readSeries 143 = .ok (.iconst 1, 1) := by decide +kernel
theorem dX6_readSeries_144 : decode cX6_readSeries 144 = .ok (.sipush 999, 3) := by decide +kernel
theorem dX6_readSeries_147 : decode cX6_readSeries 147 = .ok (.invokestatic 48, 3) := by decide +kernel
theorem dX6_readSeries_150 : decode cX6_readSeries 150 = .ok (.ifCond .ne 5, 3) := by decide +kernel
theorem dX6_readSeries_153 : decode cX6_readSeries 153 = .ok (.iconst 0, 1) := by decide +kernel
theorem dX6_readSeries_154 : decode cX6_readSeries 154 = .ok (.ireturn, 1) := by decide +kernel
theorem dX6_readSeries_155 : decode cX6_readSeries 155 = .ok (.aload_n 1, 1) := by decide +kernel
theorem dX6_readSeries_156 : decode cX6_readSeries 156 = .ok (.invokevirtual 87, 3) := by decide +kernel
theorem dX6_readSeries_159 : decode cX6_readSeries 159 = .ok (.iconst 1, 1) := by decide +kernel
theorem dX6_readSeries_160 : decode cX6_readSeries 160 = .ok (.ireturn, 1) := by decide +kernel
theorem dX6_skip_0 : decode cX6_skip 0 = .ok (.aload_n 0, 1) := by decide +kernel
theorem dX6_skip_1 : decode cX6_skip 1 = .ok (.getfield 24, 3) := by decide +kernel
theorem dX6_skip_4 : decode cX6_skip 4 = .ok (.aload_n 0, 1) := by decide +kernel
theorem dX6_skip_5 : decode cX6_skip 5 = .ok (.getfield 15, 3) := by decide +kernel
theorem dX6_skip_8 : decode cX6_skip 8 = .ok (.if_icmp .ge 16, 3) := by decide +kernel
theorem dX6_skip_11 : decode cX6_skip 11 = .ok (.aload_n 0, 1) := by decide +kernel
theorem dX6_skip_12 : decode cX6_skip 12 = .ok (.getfield 9, 3) := by decide +kernel
theorem dX6_skip_15 : decode cX6_skip 15 = .ok (.aload_n 0, 1) := by decide +kernel
theorem dX6_skip_16 : decode cX6_skip 16 = .ok (.getfield 24, 3) := by decide +kernel
theorem dX6_skip_19 : decode cX6_skip 19 = .ok (.iaload, 1) := by decide +kernel
theorem dX6_skip_20 : decode cX6_skip 20 = .ok (.iload_n 1, 1) := by decide +kernel
theorem dX6_skip_21 : decode cX6_skip 21 = .ok (.if_icmp .eq 5, 3) := by decide +kernel
theorem dX6_skip_24 : decode cX6_skip 24 = .ok (.iconst 0, 1) := by decide +kernel
theorem dX6_skip_25 : decode cX6_skip 25 = .ok (.ireturn, 1) := by decide +kernel
theorem dX6_skip_26 : decode cX6_skip 26 = .ok (.aload_n 0, 1) := by decide +kernel
theorem dX6_skip_27 : decode cX6_skip 27 = .ok (.dup, 1) := by decide +kernel
theorem dX6_skip_28 : decode cX6_skip 28 = .ok (.getfield 24, 3) := by decide +kernel
theorem dX6_skip_31 : decode cX6_skip 31 = .ok (.iconst 1, 1) := by decide +kernel
theorem dX6_skip_32 : decode cX6_skip 32 = .ok (.iadd, 1) := by decide +kernel
theorem dX6_skip_33 : decode cX6_skip 33 = .ok (.putfield 24, 3) := by decide +kernel
theorem dX6_skip_36 : decode cX6_skip 36 = .ok (.iconst 1, 1) := by decide +kernel
theorem dX6_skip_37 : decode cX6_skip 37 = .ok (.ireturn, 1) := by decide +kernel
theorem dX6_readLetter_0 : decode cX6_readLetter 0 = .ok (.aload_n 0, 1) := by decide +kernel
theorem dX6_readLetter_1 : decode cX6_readLetter 1 = .ok (.getfield 24, 3) := by decide +kernel
theorem dX6_readLetter_4 : decode cX6_readLetter 4 = .ok (.aload_n 0, 1) := by decide +kernel
theorem dX6_readLetter_5 : decode cX6_readLetter 5 = .ok (.getfield 15, 3) := by decide +kernel
theorem dX6_readLetter_8 : decode cX6_readLetter 8 = .ok (.if_icmp .ge 31, 3) := by decide +kernel
theorem dX6_readLetter_11 : decode cX6_readLetter 11 = .ok (.aload_n 0, 1) := by decide +kernel
theorem dX6_readLetter_12 : decode cX6_readLetter 12 = .ok (.getfield 9, 3) := by decide +kernel
theorem dX6_readLetter_15 : decode cX6_readLetter 15 = .ok (.aload_n 0, 1) := by decide +kernel
theorem dX6_readLetter_16 : decode cX6_readLetter 16 = .ok (.getfield 24, 3) := by decide +kernel
theorem dX6_readLetter_19 : decode cX6_readLetter 19 = .ok (.iaload, 1) := by decide +kernel
theorem dX6_readLetter_20 : decode cX6_readLetter 20 = .ok (.bipush 97, 2) := by decide +kernel
theorem dX6_readLetter_22 : decode cX6_readLetter 22 = .ok (.if_icmp .lt 17, 3) := by decide +kernel
theorem dX6_readLetter_25 : decode cX6_readLetter 25 = .ok (.aload_n 0, 1) := by decide +kernel
theorem dX6_readLetter_26 : decode cX6_readLetter 26 = .ok (.getfield 9, 3) := by decide +kernel
theorem dX6_readLetter_29 : decode cX6_readLetter 29 = .ok (.aload_n 0, 1) := by decide +kernel
theorem dX6_readLetter_30 : decode cX6_readLetter 30 = .ok (.getfield 24, 3) := by decide +kernel
theorem dX6_readLetter_33 : decode cX6_readLetter 33 = .ok (.iaload, 1) := by decide +kernel
theorem dX6_readLetter_34 : decode cX6_readLetter 34 = .ok (.bipush 122, 2) := by decide +kernel
theorem dX6_readLetter_36 : decode cX6_readLetter 36 = .ok (.if_icmp .le 6, 3) := by decide +kernel
theorem dX6_readLetter_39 : decode cX6_readLetter 39 = .ok (.bipush (-4), 2) := by decide +kernel
theorem dX6_readLetter_41 : decode cX6_readLetter 41 = .ok (.ireturn, 1) := by decide +kernel
theorem dX6_readLetter_42 : decode cX6_readLetter 42 = .ok (.aload_n 0, 1) := by decide +kernel
theorem dX6_readLetter_43 : decode cX6_readLetter 43 = .ok (.dup, 1) := by decide +kernel
theorem dX6_readLetter_44 : decode cX6_readLetter 44 = .ok (.getfield 24, 3) := by decide +kernel
theorem dX6_readLetter_47 : decode cX6_readLetter 47 = .ok (.iconst 1, 1) := by decide +kernel
theorem dX6_readLetter_48 : decode cX6_readLetter 48 = .ok (.iadd, 1) := by decide +kernel
theorem dX6_readLetter_49 : decode cX6_readLetter 49 = .ok (.putfield 24, 3) := by decide +kernel
theorem dX6_readLetter_52 : decode cX6_readLetter 52 = .ok (.aload_n 0, 1) := by decide +kernel
theorem dX6_readLetter_53 : decode cX6_readLetter 53 = .ok (.getfield 9, 3) := by decide +kernel
theorem dX6_readLetter_56 : decode cX6_readLetter 56 = .ok (.aload_n 0, 1) := by decide +kernel
theorem dX6_readLetter_57 : decode cX6_readLetter 57 = .ok (.getfield 24, 3) := by decide +kernel
theorem dX6_readLetter_60 : decode cX6_readLetter 60 = .ok (.iconst 1, 1) := by decide +kernel
theorem dX6_readLetter_61 : decode cX6_readLetter 61 = .ok (.isub, 1) := by decide +kernel
theorem dX6_readLetter_62 : decode cX6_readLetter 62 = .ok (.iaload, 1) := by decide +kernel
theorem dX6_readLetter_63 : decode cX6_readLetter 63 = .ok (.bipush 97, 2) := by decide +kernel
theorem dX6_readLetter_65 : decode cX6_readLetter 65 = .ok (.isub, 1) := by decide +kernel
theorem dX6_readLetter_66 : decode cX6_readLetter 66 = .ok (.iconst 1, 1) := by decide +kernel
theorem dX6_readLetter_67 : decode cX6_readLetter 67 = .ok (.iadd, 1) := by decide +kernel
theorem dX6_readLetter_68 : decode cX6_readLetter 68 = .ok (.ireturn, 1) := by decide +kernel
theorem dX6_readNumber_0 : decode cX6_readNumber 0 = .ok (.aload_n 0, 1) := by decide +kernel
theorem dX6_readNumber_1 : decode cX6_readNumber 1 = .ok (.invokevirtual 90, 3) := by decide +kernel
theorem dX6_readNumber_4 : decode cX6_readNumber 4 = .ok (.istore_n 1, 1) := by decide +kernel
theorem dX6_readNumber_5 : decode cX6_readNumber 5 = .ok (.iload_n 1, 1) := by decide +kernel
theorem dX6_readNumber_6 : decode cX6_readNumber 6 = .ok (.bipush (-4), 2) := by decide +kernel
theorem dX6_readNumber_8 : decode cX6_readNumber 8 = .ok (.if_icmp .ne 6, 3) := by decide +kernel
theorem dX6_readNumber_11 : decode cX6_readNumber 11 = .ok (.bipush (-4), 2) := by decide +kernel
theorem dX6_readNumber_13 : decode cX6_readNumber 13 = .ok (.ireturn, 1) := by decide +kernel
theorem dX6_readNumber_14 : decode cX6_readNumber 14 = .ok (.aload_n 0, 1) := by decide +kernel
theorem dX6_readNumber_15 : decode cX6_readNumber 15 = .ok (.invokevirtual 90, 3) := by decide +kernel
theorem dX6_readNumber_18 : decode cX6_readNumber 18 = .ok (.istore_n 2, 1) := by decide +kernel
theorem dX6_readNumber_19 : decode cX6_readNumber 19 = .ok (.iload_n 2, 1) := by decide +kernel
theorem dX6_readNumber_20 : decode cX6_readNumber 20 = .ok (.bipush (-4), 2) := by decide +kernel
theorem dX6_readNumber_22 : decode cX6_readNumber 22 = .ok (.if_icmp .ne 7, 3) := by decide +kernel
theorem dX6_readNumber_25 : decode cX6_readNumber 25 = .ok (.iload_n 1, 1) := by decide +kernel
theorem dX6_readNumber_26 : decode cX6_readNumber 26 = .ok (.goto 9, 3) := by decide +kernel
theorem dX6_readNumber_29 : decode cX6_readNumber 29 = .ok (.bipush 10, 2) := by decide +kernel
theorem dX6_readNumber_31 : decode cX6_readNumber 31 = .ok (.iload_n 1, 1) := by decide +kernel
theorem dX6_readNumber_32 : decode cX6_readNumber 32 = .ok (.imul, 1) := by decide +kernel
theorem dX6_readNumber_33 : decode cX6_readNumber 33 = .ok (.iload_n 2, 1) := by decide +kernel
theorem dX6_readNumber_34 : decode cX6_readNumber 34 = .ok (.iadd, 1) := by decide +kernel
theorem dX6_readNumber_35 : decode cX6_readNumber 35 = .ok (.ireturn, 1) := by decide +kernel
theorem dX6_readFigure_0 : decode cX6_readFigure 0 = .ok (.aload_n 0, 1) := by decide +kernel
theorem dX6_readFigure_1 : decode cX6_readFigure 1 = .ok (.getfield 24, 3) := by decide +kernel
theorem dX6_readFigure_4 : decode cX6_readFigure 4 = .ok (.aload_n 0, 1) := by decide +kernel
theorem dX6_readFigure_5 : decode cX6_readFigure 5 = .ok (.getfield 15, 3) := by decide +kernel
theorem dX6_readFigure_8 : decode cX6_readFigure 8 = .ok (.if_icmp .ge 31, 3) := by decide +kernel
theorem dX6_readFigure_11 : decode cX6_readFigure 11 = .ok (.aload_n 0, 1) := by decide +kernel
theorem dX6_readFigure_12 : decode cX6_readFigure 12 = .ok (.getfield 9, 3) := by decide +kernel
theorem dX6_readFigure_15 : decode cX6_readFigure 15 = .ok (.aload_n 0, 1) := by decide +kernel
theorem dX6_readFigure_16 : decode cX6_readFigure 16 = .ok (.getfield 24, 3) := by decide +kernel
theorem dX6_readFigure_19 : decode cX6_readFigure 19 = .ok (.iaload, 1) := by decide +kernel
theorem dX6_readFigure_20 : decode cX6_readFigure 20 = .ok (.bipush 48, 2) := by decide +kernel
theorem dX6_readFigure_22 : decode cX6_readFigure 22 = .ok (.if_icmp .lt 17, 3) := by decide +kernel
theorem dX6_readFigure_25 : decode cX6_readFigure 25 = .ok (.aload_n 0, 1) := by decide +kernel
theorem dX6_readFigure_26 : decode cX6_readFigure 26 = .ok (.getfield 9, 3) := by decide +kernel
theorem dX6_readFigure_29 : decode cX6_readFigure 29 = .ok (.aload_n 0, 1) := by decide +kernel
theorem dX6_readFigure_30 : decode cX6_readFigure 30 = .ok (.getfield 24, 3) := by decide +kernel
theorem dX6_readFigure_33 : decode cX6_readFigure 33 = .ok (.iaload, 1) := by decide +kernel
theorem dX6_readFigure_34 : decode cX6_readFigure 34 = .ok (.bipush 57, 2) := by decide +kernel
theorem dX6_readFigure_36 : decode cX6_readFigure 36 = .ok (.if_icmp .le 6, 3) := by decide +kernel
theorem dX6_readFigure_39 : decode cX6_readFigure 39 = .ok (.bipush (-4), 2) := by decide +kernel
theorem dX6_readFigure_41 : decode cX6_readFigure 41 = .ok (.ireturn, 1) := by decide +kernel
theorem dX6_readFigure_42 : decode cX6_readFigure 42 = .ok (.aload_n 0, 1) := by decide +kernel
theorem dX6_readFigure_43 : decode cX6_readFigure 43 = .ok (.dup, 1) := by decide +kernel
theorem dX6_readFigure_44 : decode cX6_readFigure 44 = .ok (.getfield 24, 3) := by decide +kernel
theorem dX6_readFigure_47 : decode cX6_readFigure 47 = .ok (.iconst 1, 1) := by decide +kernel
theorem dX6_readFigure_48 : decode cX6_readFigure 48 = .ok (.iadd, 1) := by decide +kernel
theorem dX6_readFigure_49 : decode cX6_readFigure 49 = .ok (.putfield 24, 3) := by decide +kernel
theorem dX6_readFigure_52 : decode cX6_readFigure 52 = .ok (.aload_n 0, 1) := by decide +kernel
theorem dX6_readFigure_53 : decode cX6_readFigure 53 = .ok (.getfield 9, 3) := by decide +kernel
theorem dX6_readFigure_56 : decode cX6_readFigure 56 = .ok (.aload_n 0, 1) := by decide +kernel
theorem dX6_readFigure_57 : decode cX6_readFigure 57 = .ok (.getfield 24, 3) := by decide +kernel
theorem dX6_readFigure_60 : decode cX6_readFigure 60 = .ok (.iconst 1, 1) := by decide +kernel
theorem dX6_readFigure_61 : decode cX6_readFigure 61 = .ok (.isub, 1) := by decide +kernel
theorem dX6_readFigure_62 : decode cX6_readFigure 62 = .ok (.iaload, 1) := by decide +kernel
theorem dX6_readFigure_63 : decode cX6_readFigure 63 = .ok (.bipush 48, 2) := by decide +kernel
theorem dX6_readFigure_65 : decode cX6_readFigure 65 = .ok (.isub, 1) := by decide +kernel
theorem dX6_readFigure_66 : decode cX6_readFigure 66 = .ok (.ireturn, 1) := by decide +kernel
