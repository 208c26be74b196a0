theorem dX4_init_0 : decode cX4_init 0 = .ok (.aload_n 0, 1) := by decide +kernel
theorem dX4_init_1 : decode cX4_init 1 = .ok (.invokespecial 3, 3) := by decide +kernel
theorem dX4_init_4 : decode cX4_init 4 = .ok (.return_, 1) := by decide +kernel
theorem dX4_begin_0 : decode cX4_begin 0 = .ok (.aload_n 0, 1) := by decide +kernel
theorem dX4_begin_1 : decode cX4_begin 1 = .ok (.iload_n 1, 1) := by decide +kernel
theorem dX4_begin_2 : decode cX4_begin 2 = .ok (.putfield 9, 3) := by decide +kernel
theorem dX4_begin_5 : decode cX4_begin 5 = .ok (.aload_n 0, 1) := by decide +kernel
theorem dX4_begin_6 : decode cX4_begin 6 = .ok (.iload_n 2, 1) := by decide +kernel
theorem dX4_begin_7 : decode cX4_begin 7 = .ok (.putfield 15, 3) := by decide +kernel
theorem dX4_begin_10 : decode cX4_begin 10 = .ok (.aload_n 0, 1) := by decide +kernel
theorem dX4_begin_11 : decode cX4_begin 11 = .ok (.iload_n 3, 1) := by decide +kernel
theorem dX4_begin_12 : decode cX4_begin 12 = .ok (.putfield 18, 3) := by decide +kernel
theorem dX4_begin_15 : decode cX4_begin 15 = .ok (.aload_n 0, 1) := by decide +kernel
theorem dX4_begin_16 : decode cX4_begin 16 = .ok (.iconst 0, 1) := by decide +kernel
theorem dX4_begin_17 : decode cX4_begin 17 = .ok (.putfield 21, 3) := by decide +kernel
theorem dX4_begin_20 : decode cX4_begin 20 = .ok (.return_, 1) := by decide +kernel
theorem dX4_sheetsLeft_0 : decode cX4_sheetsLeft 0 = .ok (.aload_n 0, 1) := by decide +kernel
theorem dX4_sheetsLeft_1 : decode cX4_sheetsLeft 1 = .ok (.getfield 15, 3) := by decide +kernel
theorem dX4_sheetsLeft_4 : decode cX4_sheetsLeft 4 = .ok (.aload_n 0, 1) := by decide +kernel
theorem dX4_sheetsLeft_5 : decode cX4_sheetsLeft 5 = .ok (.getfield 21, 3) := by decide +kernel
theorem dX4_sheetsLeft_8 : decode cX4_sheetsLeft 8 = .ok (.isub, 1) := by decide +kernel
theorem dX4_sheetsLeft_9 : decode cX4_sheetsLeft 9 = .ok (.ireturn, 1) := by decide +kernel
theorem dX4_hasSheet_0 : decode cX4_hasSheet 0 = .ok (.iload_n 1, 1) := by decide +kernel
theorem dX4_hasSheet_1 : decode cX4_hasSheet 1 = .ok (.iconst 0, 1) := by decide +kernel
theorem dX4_hasSheet_2 : decode cX4_hasSheet 2 = .ok (.aload_n 0, 1) := by decide +kernel
theorem dX4_hasSheet_3 : decode cX4_hasSheet 3 = .ok (.getfield 15, 3) := by decide +kernel
theorem dX4_hasSheet_6 : decode cX4_hasSheet 6 = .ok (.iconst 1, 1) := by decide +kernel
theorem dX4_hasSheet_7 : decode cX4_hasSheet 7 = .ok (.isub, 1) := by decide +kernel
theorem dX4_hasSheet_8 : decode cX4_hasSheet 8 = .ok (.invokestatic 24, 3) := by decide +kernel
theorem dX4_hasSheet_11 : decode cX4_hasSheet 11 = .ok (.ireturn, 1) := by decide +kernel
theorem dX4_hasNumber_0 : decode cX4_hasNumber 0 = .ok (.iload_n 1, 1) := by decide +kernel
theorem dX4_hasNumber_1 : decode cX4_hasNumber 1 = .ok (.aload_n 0, 1) := by decide +kernel
theorem dX4_hasNumber_2 : decode cX4_hasNumber 2 = .ok (.getfield 18, 3) := by decide +kernel
theorem dX4_hasNumber_5 : decode cX4_hasNumber 5 = .ok (.if_icmp .lt 25, 3) := by decide +kernel
theorem dX4_hasNumber_8 : decode cX4_hasNumber 8 = .ok (.iload_n 1, 1) := by decide +kernel
theorem dX4_hasNumber_9 : decode cX4_hasNumber 9 = .ok (.aload_n 0, 1) := by decide +kernel
theorem dX4_hasNumber_10 : decode cX4_hasNumber 10 = .ok (.getfield 18, 3) := by decide +kernel
theorem dX4_hasNumber_13 : decode cX4_hasNumber 13 = .ok (.aload_n 0, 1) := by decide +kernel
theorem dX4_hasNumber_14 : decode cX4_hasNumber 14 = .ok (.getfield 9, 3) := by decide +kernel
theorem dX4_hasNumber_17 : decode cX4_hasNumber 17 = .ok (.aload_n 0, 1) := by decide +kernel
theorem dX4_hasNumber_18 : decode cX4_hasNumber 18 = .ok (.getfield 15, 3) := by decide +kernel
theorem dX4_hasNumber_21 : decode cX4_hasNumber 21 = .ok (.imul, 1) := by decide +kernel
theorem dX4_hasNumber_22 : decode cX4_hasNumber 22 = .ok (.iadd, 1) := by decide +kernel
theorem dX4_hasNumber_23 : decode cX4_hasNumber 23 = .ok (.if_icmp .ge 7, 3) := by decide +kernel
theorem dX4_hasNumber_26 : decode cX4_hasNumber 26 = .ok (.iconst 1, 1) := by decide +kernel
theorem dX4_hasNumber_27 : decode cX4_hasNumber 27 = .ok (.goto 4, 3) := by decide +kernel
theorem dX4_hasNumber_30 : decode cX4_hasNumber 30 = .ok (.iconst 0, 1) := by decide +kernel
theorem dX4_hasNumber_31 : decode cX4_hasNumber 31 = .ok (.ireturn, 1) := by decide +kernel
theorem dX4_numberAt_0 : decode cX4_numberAt 0 = .ok (.aload_n 0, 1) := by decide +kernel
theorem dX4_numberAt_1 : decode cX4_numberAt 1 = .ok (.getfield 18, 3) := by decide +kernel
theorem dX4_numberAt_4 : decode cX4_numberAt 4 = .ok (.iload_n 2, 1) := by decide +kernel
theorem dX4_numberAt_5 : decode cX4_numberAt 5 = .ok (.aload_n 0, 1) := by decide +kernel
theorem dX4_numberAt_6 : decode cX4_numberAt 6 = .ok (.getfield 15, 3) := by decide +kernel
theorem dX4_numberAt_9 : decode cX4_numberAt 9 = .ok (.imul, 1) := by decide +kernel
theorem dX4_numberAt_10 : decode cX4_numberAt 10 = .ok (.iadd, 1) := by decide +kernel
theorem dX4_numberAt_11 : decode cX4_numberAt 11 = .ok (.iload_n 1, 1) := by decide +kernel
theorem dX4_numberAt_12 : decode cX4_numberAt 12 = .ok (.iadd, 1) := by decide +kernel
theorem dX4_numberAt_13 : decode cX4_numberAt 13 = .ok (.ireturn, 1) := by decide +kernel
theorem dX4_sheetOf_0 : decode cX4_sheetOf 0 = .ok (.aload_n 0, 1) := by decide +kernel
theorem dX4_sheetOf_1 : decode cX4_sheetOf 1 = .ok (.getfield 15, 3) := by decide +kernel
theorem dX4_sheetOf_4 : decode cX4_sheetOf 4 = .ok (.iconst 1, 1) := by decide +kernel
theorem dX4_sheetOf_5 : decode cX4_sheetOf 5 = .ok (.if_icmp .ge 8, 3) := by decide +kernel
theorem dX4_sheetOf_8 : decode cX4_sheetOf 8 = .ok (.bipush (-4), 2) := by decide +kernel
theorem dX4_sheetOf_10 : decode cX4_sheetOf 10 = .ok (.goto 14, 3) := by decide +kernel
theorem dX4_sheetOf_13 : decode cX4_sheetOf 13 = .ok (.iload_n 1, 1) := by decide +kernel
theorem dX4_sheetOf_14 : decode cX4_sheetOf 14 = .ok (.aload_n 0, 1) := by decide +kernel
theorem dX4_sheetOf_15 : decode cX4_sheetOf 15 = .ok (.getfield 18, 3) := by decide +kernel
theorem dX4_sheetOf_18 : decode cX4_sheetOf 18 = .ok (.isub, 1) := by decide +kernel
theorem dX4_sheetOf_19 : decode cX4_sheetOf 19 = .ok (.aload_n 0, 1) := by decide +kernel
theorem dX4_sheetOf_20 : decode cX4_sheetOf 20 = .ok (.getfield 15, 3) := by decide +kernel
theorem dX4_sheetOf_23 : decode cX4_sheetOf 23 = .ok (.irem, 1) := by decide +kernel
theorem dX4_sheetOf_24 : decode cX4_sheetOf 24 = .ok (.ireturn, 1) := by decide +kernel
theorem dX4_placeOf_0 : decode cX4_placeOf 0 = .ok (.aload_n 0, 1) := by decide +kernel
theorem dX4_placeOf_1 : decode cX4_placeOf 1 = .ok (.getfield 15, 3) := by decide +kernel
theorem dX4_placeOf_4 : decode cX4_placeOf 4 = .ok (.iconst 1, 1) := by decide +kernel
theorem dX4_placeOf_5 : decode cX4_placeOf 5 = .ok (.if_icmp .ge 8, 3) := by decide +kernel
theorem dX4_placeOf_8 : decode cX4_placeOf 8 = .ok (.bipush (-4), 2) := by decide +kernel
theorem dX4_placeOf_10 : decode cX4_placeOf 10 = .ok (.goto 14, 3) := by decide +kernel
theorem dX4_placeOf_13 : decode cX4_placeOf 13 = .ok (.iload_n 1, 1) := by decide +kernel
theorem dX4_placeOf_14 : decode cX4_placeOf 14 = .ok (.aload_n 0, 1) := by decide +kernel
theorem dX4_placeOf_15 : decode cX4_placeOf 15 = .ok (.getfield 18, 3) := by decide +kernel
theorem dX4_placeOf_18 : decode cX4_placeOf 18 = .ok (.isub, 1) := by decide +kernel
theorem dX4_placeOf_19 : decode cX4_placeOf 19 = .ok (.aload_n 0, 1) := by decide +kernel
theorem dX4_placeOf_20 : decode cX4_placeOf 20 = .ok (.getfield 15, 3) := by decide +kernel
theorem dX4_placeOf_23 : decode cX4_placeOf 23 = .ok (.idiv, 1) := by decide +kernel
theorem dX4_placeOf_24 : decode cX4_placeOf 24 = .ok (.ireturn, 1) := by decide +kernel
