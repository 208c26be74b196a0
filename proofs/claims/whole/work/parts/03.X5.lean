theorem dX5_init_0 : decode cX5_init 0 = .ok (.aload_n 0, 1) := by decide +kernel
theorem dX5_init_1 : decode cX5_init 1 = .ok (.invokespecial 3, 3) := by decide +kernel
theorem dX5_init_4 : decode cX5_init 4 = .ok (.aload_n 0, 1) := by decide +kernel
theorem dX5_init_5 : decode cX5_init 5 = .ok (.bipush 99, 2) := by decide +kernel
theorem dX5_init_7 : decode cX5_init 7 = .ok (.newarray .int, 2) := by decide +kernel
theorem dX5_init_9 : decode cX5_init 9 = .ok (.putfield 9, 3) := by decide +kernel
theorem dX5_init_12 : decode cX5_init 12 = .ok (.aload_n 0, 1) := by decide +kernel
theorem dX5_init_13 : decode cX5_init 13 = .ok (.bipush 99, 2) := by decide +kernel
theorem dX5_init_15 : decode cX5_init 15 = .ok (.newarray .int, 2) := by decide +kernel
theorem dX5_init_17 : decode cX5_init 17 = .ok (.putfield 15, 3) := by decide +kernel
theorem dX5_init_20 : decode cX5_init 20 = .ok (.return_, 1) := by decide +kernel
theorem dX5_begin_0 : decode cX5_begin 0 = .ok (.aload_n 0, 1) := by decide +kernel
theorem dX5_begin_1 : decode cX5_begin 1 = .ok (.iload_n 1, 1) := by decide +kernel
theorem dX5_begin_2 : decode cX5_begin 2 = .ok (.bipush 99, 2) := by decide +kernel
theorem dX5_begin_4 : decode cX5_begin 4 = .ok (.invokestatic 18, 3) := by decide +kernel
theorem dX5_begin_7 : decode cX5_begin 7 = .ok (.putfield 24, 3) := by decide +kernel
theorem dX5_begin_10 : decode cX5_begin 10 = .ok (.aload_n 0, 1) := by decide +kernel
theorem dX5_begin_11 : decode cX5_begin 11 = .ok (.iconst 0, 1) := by decide +kernel
theorem dX5_begin_12 : decode cX5_begin 12 = .ok (.putfield 28, 3) := by decide +kernel
theorem dX5_begin_15 : decode cX5_begin 15 = .ok (.return_, 1) := by decide +kernel
theorem dX5_left_0 : decode cX5_left 0 = .ok (.aload_n 0, 1) := by decide +kernel
theorem dX5_left_1 : decode cX5_left 1 = .ok (.getfield 24, 3) := by decide +kernel
theorem dX5_left_4 : decode cX5_left 4 = .ok (.aload_n 0, 1) := by decide +kernel
theorem dX5_left_5 : decode cX5_left 5 = .ok (.getfield 28, 3) := by decide +kernel
theorem dX5_left_8 : decode cX5_left 8 = .ok (.isub, 1) := by decide +kernel
theorem dX5_left_9 : decode cX5_left 9 = .ok (.ireturn, 1) := by decide +kernel
theorem dX5_standFor_0 : decode cX5_standFor 0 = .ok (.aload_n 0, 1) := by decide +kernel
theorem dX5_standFor_1 : decode cX5_standFor 1 = .ok (.getfield 28, 3) := by decide +kernel
theorem dX5_standFor_4 : decode cX5_standFor 4 = .ok (.aload_n 0, 1) := by decide +kernel
theorem dX5_standFor_5 : decode cX5_standFor 5 = .ok (.getfield 24, 3) := by decide +kernel
theorem dX5_standFor_8 : decode cX5_standFor 8 = .ok (.if_icmp .lt 4, 3) := by decide +kernel
theorem dX5_standFor_11 : decode cX5_standFor 11 = .ok (.return_, 1) := by decide +kernel
theorem dX5_standFor_12 : decode cX5_standFor 12 = .ok (.aload_n 0, 1) := by decide +kernel
theorem dX5_standFor_13 : decode cX5_standFor 13 = .ok (.getfield 9, 3) := by decide +kernel
theorem dX5_standFor_16 : decode cX5_standFor 16 = .ok (.aload_n 0, 1) := by decide +kernel
theorem dX5_standFor_17 : decode cX5_standFor 17 = .ok (.getfield 28, 3) := by decide +kernel
theorem dX5_standFor_20 : decode cX5_standFor 20 = .ok (.iload_n 1, 1) := by decide +kernel
theorem dX5_standFor_21 : decode cX5_standFor 21 = .ok (.iastore, 1) := by decide +kernel
theorem dX5_standFor_22 : decode cX5_standFor 22 = .ok (.aload_n 0, 1) := by decide +kernel
theorem dX5_standFor_23 : decode cX5_standFor 23 = .ok (.getfield 15, 3) := by decide +kernel
theorem dX5_standFor_26 : decode cX5_standFor 26 = .ok (.aload_n 0, 1) := by decide +kernel
theorem dX5_standFor_27 : decode cX5_standFor 27 = .ok (.getfield 28, 3) := by decide +kernel
theorem dX5_standFor_30 : decode cX5_standFor 30 = .ok (.iload_n 2, 1) := by decide +kernel
theorem dX5_standFor_31 : decode cX5_standFor 31 = .ok (.iastore, 1) := by decide +kernel
theorem dX5_standFor_32 : decode cX5_standFor 32 = .ok (.aload_n 0, 1) := by decide +kernel
theorem dX5_standFor_33 : decode cX5_standFor 33 = .ok (.dup, 1) := by decide +kernel
theorem dX5_standFor_34 : decode cX5_standFor 34 = .ok (.getfield 28, 3) := by decide +kernel
theorem dX5_standFor_37 : decode cX5_standFor 37 = .ok (.iconst 1, 1) := by decide +kernel
theorem dX5_standFor_38 : decode cX5_standFor 38 = .ok (.iadd, 1) := by decide +kernel
theorem dX5_standFor_39 : decode cX5_standFor 39 = .ok (.putfield 28, 3) := by decide +kernel
theorem dX5_standFor_42 : decode cX5_standFor 42 = .ok (.return_, 1) := by decide +kernel
theorem dX5_takeBack_0 : decode cX5_takeBack 0 = .ok (.aload_n 0, 1) := by decide +kernel
theorem dX5_takeBack_1 : decode cX5_takeBack 1 = .ok (.aload_n 0, 1) := by decide +kernel
theorem dX5_takeBack_2 : decode cX5_takeBack 2 = .ok (.getfield 28, 3) := by decide +kernel
theorem dX5_takeBack_5 : decode cX5_takeBack 5 = .ok (.iload_n 1, 1) := by decide +kernel
theorem dX5_takeBack_6 : decode cX5_takeBack 6 = .ok (.isub, 1) := by decide +kernel
theorem dX5_takeBack_7 : decode cX5_takeBack 7 = .ok (.iconst 0, 1) := by decide +kernel
theorem dX5_takeBack_8 : decode cX5_takeBack 8 = .ok (.invokestatic 31, 3) := by decide +kernel
theorem dX5_takeBack_11 : decode cX5_takeBack 11 = .ok (.putfield 28, 3) := by decide +kernel
theorem dX5_takeBack_14 : decode cX5_takeBack 14 = .ok (.return_, 1) := by decide +kernel
theorem dX5_seriesOf_0 : decode cX5_seriesOf 0 = .ok (.iload_n 1, 1) := by decide +kernel
theorem dX5_seriesOf_1 : decode cX5_seriesOf 1 = .ok (.iconst 0, 1) := by decide +kernel
theorem dX5_seriesOf_2 : decode cX5_seriesOf 2 = .ok (.aload_n 0, 1) := by decide +kernel
theorem dX5_seriesOf_3 : decode cX5_seriesOf 3 = .ok (.getfield 28, 3) := by decide +kernel
theorem dX5_seriesOf_6 : decode cX5_seriesOf 6 = .ok (.iconst 1, 1) := by decide +kernel
theorem dX5_seriesOf_7 : decode cX5_seriesOf 7 = .ok (.isub, 1) := by decide +kernel
theorem dX5_seriesOf_8 : decode cX5_seriesOf 8 = .ok (.invokestatic 34, 3) := by decide +kernel
theorem dX5_seriesOf_11 : decode cX5_seriesOf 11 = .ok (.ifCond .eq 12, 3) := by decide +kernel
theorem dX5_seriesOf_14 : decode cX5_seriesOf 14 = .ok (.aload_n 0, 1) := by decide +kernel
theorem dX5_seriesOf_15 : decode cX5_seriesOf 15 = .ok (.getfield 9, 3) := by decide +kernel
theorem dX5_seriesOf_18 : decode cX5_seriesOf 18 = .ok (.iload_n 1, 1) := by decide +kernel
theorem dX5_seriesOf_19 : decode cX5_seriesOf 19 = .ok (.iaload, 1) := by decide +kernel
theorem dX5_seriesOf_20 : decode cX5_seriesOf 20 = .ok (.goto 5, 3) := by decide +kernel
theorem dX5_seriesOf_23 : decode cX5_seriesOf 23 = .ok (.bipush (-4), 2) := by decide +kernel
theorem dX5_seriesOf_25 : decode cX5_seriesOf 25 = .ok (.ireturn, 1) := by decide +kernel
theorem dX5_numberOf_0 : decode cX5_numberOf 0 = .ok (.iload_n 1, 1) := by decide +kernel
theorem dX5_numberOf_1 : decode cX5_numberOf 1 = .ok (.iconst 0, 1) := by decide +kernel
theorem dX5_numberOf_2 : decode cX5_numberOf 2 = .ok (.aload_n 0, 1) := by decide +kernel
theorem dX5_numberOf_3 : decode cX5_numberOf 3 = .ok (.getfield 28, 3) := by decide +kernel
theorem dX5_numberOf_6 : decode cX5_numberOf 6 = .ok (.iconst 1, 1) := by decide +kernel
theorem dX5_numberOf_7 : decode cX5_numberOf 7 = .ok (.isub, 1) := by decide +kernel
theorem dX5_numberOf_8 : decode cX5_numberOf 8 = .ok (.invokestatic 34, 3) := by decide +kernel
theorem dX5_numberOf_11 : decode cX5_numberOf 11 = .ok (.ifCond .eq 12, 3) := by decide +kernel
theorem dX5_numberOf_14 : decode cX5_numberOf 14 = .ok (.aload_n 0, 1) := by decide +kernel
theorem dX5_numberOf_15 : decode cX5_numberOf 15 = .ok (.getfield 15, 3) := by decide +kernel
theorem dX5_numberOf_18 : decode cX5_numberOf 18 = .ok (.iload_n 1, 1) := by decide +kernel
theorem dX5_numberOf_19 : decode cX5_numberOf 19 = .ok (.iaload, 1) := by decide +kernel
theorem dX5_numberOf_20 : decode cX5_numberOf 20 = .ok (.goto 5, 3) := by decide +kernel
theorem dX5_numberOf_23 : decode cX5_numberOf 23 = .ok (.bipush (-4), 2) := by decide +kernel
theorem dX5_numberOf_25 : decode cX5_numberOf 25 = .ok (.ireturn, 1) := by decide +kernel
theorem dX5_standingFor_0 : decode cX5_standingFor 0 = .ok (.iconst 0, 1) := by decide +kernel
theorem dX5_standingFor_1 : decode cX5_standingFor 1 = .ok (.istore_n 3, 1) := by decide +kernel
theorem dX5_standingFor_2 : decode cX5_standingFor 2 = .ok (.iload_n 3, 1) := by decide +kernel
theorem dX5_standingFor_3 : decode cX5_standingFor 3 = .ok (.aload_n 0, 1) := by decide +kernel
theorem dX5_standingFor_4 : decode cX5_standingFor 4 = .ok (.getfield 28, 3) := by decide +kernel
theorem dX5_standingFor_7 : decode cX5_standingFor 7 = .ok (.if_icmp .ge 31, 3) := by decide +kernel
theorem dX5_standingFor_10 : decode cX5_standingFor 10 = .ok (.aload_n 0, 1) := by decide +kernel
theorem dX5_standingFor_11 : decode cX5_standingFor 11 = .ok (.getfield 9, 3) := by decide +kernel
theorem dX5_standingFor_14 : decode cX5_standingFor 14 = .ok (.iload_n 3, 1) := by decide +kernel
theorem dX5_standingFor_15 : decode cX5_standingFor 15 = .ok (.iaload, 1) := by decide +kernel
theorem dX5_standingFor_16 : decode cX5_standingFor 16 = .ok (.iload_n 1, 1) := by decide +kernel
theorem dX5_standingFor_17 : decode cX5_standingFor 17 = .ok (.if_icmp .ne 15, 3) := by decide +kernel
theorem dX5_standingFor_20 : decode cX5_standingFor 20 = .ok (.aload_n 0, 1) := by decide +kernel
theorem dX5_standingFor_21 : decode cX5_standingFor 21 = .ok (.getfield 15, 3) := by decide +kernel
theorem dX5_standingFor_24 : decode cX5_standingFor 24 = .ok (.iload_n 3, 1) := by decide +kernel
theorem dX5_standingFor_25 : decode cX5_standingFor 25 = .ok (.iaload, 1) := by decide +kernel
theorem dX5_standingFor_26 : decode cX5_standingFor 26 = .ok (.iload_n 2, 1) := by decide +kernel
theorem dX5_standingFor_27 : decode cX5_standingFor 27 = .ok (.if_icmp .ne 5, 3) := by decide +kernel
theorem dX5_standingFor_30 : decode cX5_standingFor 30 = .ok (.iload_n 3, 1) := by decide +kernel
theorem dX5_standingFor_31 : decode cX5_standingFor 31 = .ok (.ireturn, 1) := by decide +kernel
theorem dX5_standingFor_32 : decode cX5_standingFor 32 = .ok (.iinc 3 1, 3) := by decide +kernel
theorem dX5_standingFor_35 : decode cX5_standingFor 35 = .ok (.goto (-33), 3) := by decide +kernel
theorem dX5_standingFor_38 : decode cX5_standingFor 38 = .ok (.bipush (-4), 2) := by decide +kernel
theorem dX5_standingFor_40 : decode cX5_standingFor 40 = .ok (.ireturn, 1) := by decide +kernel
theorem dX5_standsFor_0 : decode cX5_standsFor 0 = .ok (.aload_n 0, 1) := by decide +kernel
theorem dX5_standsFor_1 : decode cX5_standsFor 1 = .ok (.iload_n 1, 1) := by decide +kernel
theorem dX5_standsFor_2 : decode cX5_standsFor 2 = .ok (.iload_n 2, 1) := by decide +kernel
theorem dX5_standsFor_3 : decode cX5_standsFor 3 = .ok (.invokevirtual 38, 3) := by decide +kernel
theorem dX5_standsFor_6 : decode cX5_standsFor 6 = .ok (.bipush (-4), 2) := by decide +kernel
theorem dX5_standsFor_8 : decode cX5_standsFor 8 = .ok (.if_icmp .eq 7, 3) := by decide +kernel
theorem dX5_standsFor_11 : decode cX5_standsFor 11 = .ok (.iconst 1, 1) := by decide +kernel
theorem dX5_standsFor_12 : decode cX5_standsFor 12 = .ok (.goto 4, 3) := by decide +kernel
theorem dX5_standsFor_15 : decode cX5_standsFor 15 = .ok (.iconst 0, 1) := by decide +kernel
theorem dX5_standsFor_16 : decode cX5_standsFor 16 = .ok (.ireturn, 1) := by decide +kernel
theorem dX5_standingForSeries_0 : decode cX5_standingForSeries 0 = .ok (.iconst 0, 1) := by decide +kernel
theorem dX5_standingForSeries_1 : decode cX5_standingForSeries 1 = .ok (.istore_n 2, 1) := by decide +kernel
theorem dX5_standingForSeries_2 : decode cX5_standingForSeries 2 = .ok (.iconst 0, 1) := by decide +kernel
theorem dX5_standingForSeries_3 : decode cX5_standingForSeries 3 = .ok (.istore_n 3, 1) := by decide +kernel
theorem dX5_standingForSeries_4 : decode cX5_standingForSeries 4 = .ok (.iload_n 3, 1) := by decide +kernel
theorem dX5_standingForSeries_5 : decode cX5_standingForSeries 5 = .ok (.aload_n 0, 1) := by decide +kernel
theorem dX5_standingForSeries_6 : decode cX5_standingForSeries 6 = .ok (.getfield 28, 3) := by decide +kernel
theorem dX5_standingForSeries_9 : decode cX5_standingForSeries 9 = .ok (.if_icmp .ge 22, 3) := by decide +kernel
theorem dX5_standingForSeries_12 : decode cX5_standingForSeries 12 = .ok (.aload_n 0, 1) := by decide +kernel
theorem dX5_standingForSeries_13 : decode cX5_standingForSeries 13 = .ok (.getfield 9, 3) := by decide +kernel
theorem dX5_standingForSeries_16 : decode cX5_standingForSeries 16 = .ok (.iload_n 3, 1) := by decide +kernel
theorem dX5_standingForSeries_17 : decode cX5_standingForSeries 17 = .ok (.iaload, 1) := by decide +kernel
theorem dX5_standingForSeries_18 : decode cX5_standingForSeries 18 = .ok (.iload_n 1, 1) := by decide +kernel
theorem dX5_standingForSeries_19 : decode cX5_standingForSeries 19 = .ok (.if_icmp .ne 6, 3) := by decide +kernel
theorem dX5_standingForSeries_22 : decode cX5_standingForSeries 22 = .ok (.iinc 2 1, 3) := by decide +kernel
theorem dX5_standingForSeries_25 : decode cX5_standingForSeries 25 = .ok (.iinc 3 1, 3) := by decide +kernel
theorem dX5_standingForSeries_28 : decode cX5_standingForSeries 28 = .ok (.goto (-24), 3) := by decide +kernel
theorem dX5_standingForSeries_31 : decode cX5_standingForSeries 31 = .ok (.iload_n 2, 1) := by decide +kernel
theorem dX5_standingForSeries_32 : decode cX5_standingForSeries 32 = .ok (.ireturn, 1) := by decide +kernel
