theorem dX7_init_0 : decode cX7_init 0 = .ok (.aload_n 0, 1) := by decide +kernel
theorem dX7_init_1 : decode cX7_init 1 = .ok (.invokespecial 1, 3) := by decide +kernel
theorem dX7_init_4 : decode cX7_init 4 = .ok (.aload_n 0, 1) := by decide +kernel
theorem dX7_init_5 : decode cX7_init 5 = .ok (.new 7, 3) := by decide +kernel
theorem dX7_init_8 : decode cX7_init 8 = .ok (.dup, 1) := by decide +kernel
theorem dX7_init_9 : decode cX7_init 9 = .ok (.invokespecial 9, 3) := by decide +kernel
theorem dX7_init_12 : decode cX7_init 12 = .ok (.putfield 10, 3) := by decide +kernel
theorem dX7_init_15 : decode cX7_init 15 = .ok (.aload_n 0, 1) := by decide +kernel
theorem dX7_init_16 : decode cX7_init 16 = .ok (.new 16, 3) := by decide +kernel
theorem dX7_init_19 : decode cX7_init 19 = .ok (.dup, 1) := by decide +kernel
theorem dX7_init_20 : decode cX7_init 20 = .ok (.invokespecial 18, 3) := by decide +kernel
theorem dX7_init_23 : decode cX7_init 23 = .ok (.putfield 19, 3) := by decide +kernel
theorem dX7_init_26 : decode cX7_init 26 = .ok (.aload_n 0, 1) := by decide +kernel
theorem dX7_init_27 : decode cX7_init 27 = .ok (.new 23, 3) := by decide +kernel
theorem dX7_init_30 : decode cX7_init 30 = .ok (.dup, 1) := by decide +kernel
theorem dX7_init_31 : decode cX7_init 31 = .ok (.invokespecial 25, 3) := by decide +kernel
theorem dX7_init_34 : decode cX7_init 34 = .ok (.putfield 26, 3) := by decide +kernel
theorem dX7_init_37 : decode cX7_init 37 = .ok (.aload_n 0, 1) := by decide +kernel
theorem dX7_init_38 : decode cX7_init 38 = .ok (.new 30, 3) := by decide +kernel
theorem dX7_init_41 : decode cX7_init 41 = .ok (.dup, 1) := by decide +kernel
theorem dX7_init_42 : decode cX7_init 42 = .ok (.invokespecial 32, 3) := by decide +kernel
theorem dX7_init_45 : decode cX7_init 45 = .ok (.putfield 33, 3) := by decide +kernel
theorem dX7_init_48 : decode cX7_init 48 = .ok (.aload_n 0, 1) := by decide +kernel
theorem dX7_init_49 : decode cX7_init 49 = .ok (.new 30, 3) := by decide +kernel
theorem dX7_init_52 : decode cX7_init 52 = .ok (.dup, 1) := by decide +kernel
theorem dX7_init_53 : decode cX7_init 53 = .ok (.invokespecial 32, 3) := by decide +kernel
theorem dX7_init_56 : decode cX7_init 56 = .ok (.putfield 37, 3) := by decide +kernel
theorem dX7_init_59 : decode cX7_init 59 = .ok (.iconst 0, 1) := by decide +kernel
theorem dX7_init_60 : decode cX7_init 60 = .ok (.istore_n 1, 1) := by decide +kernel
theorem dX7_init_61 : decode cX7_init 61 = .ok (.iload_n 1, 1) := by decide +kernel
theorem dX7_init_62 : decode cX7_init 62 = .ok (.ldc 40, 2) := by decide +kernel
theorem dX7_init_64 : decode cX7_init 64 = .ok (.invokevirtual 42, 3) := by decide +kernel
theorem dX7_init_67 : decode cX7_init 67 = .ok (.if_icmp .ge 23, 3) := by decide +kernel
theorem dX7_init_70 : decode cX7_init 70 = .ok (.aload_n 0, 1) := by decide +kernel
theorem dX7_init_71 : decode cX7_init 71 = .ok (.getfield 10, 3) := by decide +kernel
theorem dX7_init_74 : decode cX7_init 74 = .ok (.ldc 40, 2) := by decide +kernel
theorem dX7_init_76 : decode cX7_init 76 = .ok (.iload_n 1, 1) := by decide +kernel
theorem dX7_init_77 : decode cX7_init 77 = .ok (.invokevirtual 48, 3) := by decide +kernel
theorem dX7_init_80 : decode cX7_init 80 = .ok (.invokevirtual 52, 3) := by decide +kernel
theorem dX7_init_83 : decode cX7_init 83 = .ok (.pop, 1) := by decide +kernel
theorem dX7_init_84 : decode cX7_init 84 = .ok (.iinc 1 1, 3) := by decide +kernel
theorem dX7_init_87 : decode cX7_init 87 = .ok (.goto (-26), 3) := by decide +kernel
theorem dX7_init_90 : decode cX7_init 90 = .ok (.aload_n 0, 1) := by decide +kernel
theorem dX7_init_91 : decode cX7_init 91 = .ok (.invokevirtual 56, 3) := by decide +kernel
theorem dX7_init_94 : decode cX7_init 94 = .ok (.pop, 1) := by decide +kernel
theorem dX7_init_95 : decode cX7_init 95 = .ok (.aload_n 0, 1) := by decide +kernel
theorem dX7_init_96 : decode cX7_init 96 = .ok (.getfield 10, 3) := by decide +kernel
theorem dX7_init_99 : decode cX7_init 99 = .ok (.invokevirtual 60, 3) := by decide +kernel
theorem dX7_init_102 : decode cX7_init 102 = .ok (.return_, 1) := by decide +kernel
theorem dX7_write_0 : decode cX7_write 0 = .ok (.iload_n 1, 1) := by decide +kernel
theorem dX7_write_1 : decode cX7_write 1 = .ok (.bipush 32, 2) := by decide +kernel
theorem dX7_write_3 : decode cX7_write 3 = .ok (.bipush 126, 2) := by decide +kernel
theorem dX7_write_5 : decode cX7_write 5 = .ok (.invokestatic 63, 3) := by decide +kernel
theorem dX7_write_8 : decode cX7_write 8 = .ok (.ifCond .ne 5, 3) := by decide +kernel
theorem dX7_write_11 : decode cX7_write 11 = .ok (.iconst (-1), 1) := by decide +kernel
theorem dX7_write_12 : decode cX7_write 12 = .ok (.ireturn, 1) := by decide +kernel
theorem dX7_write_13 : decode cX7_write 13 = .ok (.aload_n 0, 1) := by decide +kernel
theorem dX7_write_14 : decode cX7_write 14 = .ok (.getfield 10, 3) := by decide +kernel
theorem dX7_write_17 : decode cX7_write 17 = .ok (.iload_n 1, 1) := by decide +kernel
theorem dX7_write_18 : decode cX7_write 18 = .ok (.invokevirtual 52, 3) := by decide +kernel
theorem dX7_write_21 : decode cX7_write 21 = .ok (.ifCond .eq 13, 3) := by decide +kernel
theorem dX7_write_24 : decode cX7_write 24 = .ok (.aload_n 0, 1) := by decide +kernel
theorem dX7_write_25 : decode cX7_write 25 = .ok (.getfield 10, 3) := by decide +kernel
theorem dX7_write_28 : decode cX7_write 28 = .ok (.getfield 67, 3) := by decide +kernel
theorem dX7_write_31 : decode cX7_write 31 = .ok (.goto 5, 3) := by decide +kernel
theorem dX7_write_34 : decode cX7_write 34 = .ok (.bipush (-3), 2) := by decide +kernel
theorem dX7_write_36 : decode cX7_write 36 = .ok (.ireturn, 1) := by decide +kernel
theorem dX7_wipe_0 : decode cX7_wipe 0 = .ok (.aload_n 0, 1) := by decide +kernel
theorem dX7_wipe_1 : decode cX7_wipe 1 = .ok (.getfield 10, 3) := by decide +kernel
theorem dX7_wipe_4 : decode cX7_wipe 4 = .ok (.getfield 67, 3) := by decide +kernel
theorem dX7_wipe_7 : decode cX7_wipe 7 = .ok (.istore_n 1, 1) := by decide +kernel
theorem dX7_wipe_8 : decode cX7_wipe 8 = .ok (.aload_n 0, 1) := by decide +kernel
theorem dX7_wipe_9 : decode cX7_wipe 9 = .ok (.getfield 10, 3) := by decide +kernel
theorem dX7_wipe_12 : decode cX7_wipe 12 = .ok (.invokevirtual 60, 3) := by decide +kernel
theorem dX7_wipe_15 : decode cX7_wipe 15 = .ok (.iload_n 1, 1) := by decide +kernel
theorem dX7_wipe_16 : decode cX7_wipe 16 = .ok (.ireturn, 1) := by decide +kernel
theorem dX7_fault_0 : decode cX7_fault 0 = .ok (.aload_n 0, 1) := by decide +kernel
theorem dX7_fault_1 : decode cX7_fault 1 = .ok (.getfield 10, 3) := by decide +kernel
theorem dX7_fault_4 : decode cX7_fault 4 = .ok (.aload_n 0, 1) := by decide +kernel
theorem dX7_fault_5 : decode cX7_fault 5 = .ok (.getfield 37, 3) := by decide +kernel
theorem dX7_fault_8 : decode cX7_fault 8 = .ok (.invokevirtual 70, 3) := by decide +kernel
theorem dX7_fault_11 : decode cX7_fault 11 = .ok (.ireturn, 1) := by decide +kernel
theorem dX7_lay_0 : decode cX7_lay 0 = .ok (.aload_n 0, 1) := by decide +kernel
theorem dX7_lay_1 : decode cX7_lay 1 = .ok (.invokevirtual 56, 3) := by decide +kernel
theorem dX7_lay_4 : decode cX7_lay 4 = .ok (.ifCond .eq 13, 3) := by decide +kernel
theorem dX7_lay_7 : decode cX7_lay 7 = .ok (.aload_n 0, 1) := by decide +kernel
theorem dX7_lay_8 : decode cX7_lay 8 = .ok (.getfield 33, 3) := by decide +kernel
theorem dX7_lay_11 : decode cX7_lay 11 = .ok (.getfield 74, 3) := by decide +kernel
theorem dX7_lay_14 : decode cX7_lay 14 = .ok (.goto 5, 3) := by decide +kernel
theorem dX7_lay_17 : decode cX7_lay 17 = .ok (.bipush (-2), 2) := by decide +kernel
theorem dX7_lay_19 : decode cX7_lay 19 = .ok (.ireturn, 1) := by decide +kernel
theorem dX7_run_0 : decode cX7_run 0 = .ok (.aload_n 0, 1) := by decide +kernel
theorem dX7_run_1 : decode cX7_run 1 = .ok (.getfield 33, 3) := by decide +kernel
theorem dX7_run_4 : decode cX7_run 4 = .ok (.iload_n 1, 1) := by decide +kernel
theorem dX7_run_5 : decode cX7_run 5 = .ok (.iload_n 2, 1) := by decide +kernel
theorem dX7_run_6 : decode cX7_run 6 = .ok (.invokevirtual 77, 3) := by decide +kernel
theorem dX7_run_9 : decode cX7_run 9 = .ok (.astore 4, 2) := by decide +kernel
theorem dX7_run_11 : decode cX7_run 11 = .ok (.aload 4, 2) := by decide +kernel
theorem dX7_run_13 : decode cX7_run 13 = .ok (.ifnull 13, 3) := by decide +kernel
theorem dX7_run_16 : decode cX7_run 16 = .ok (.iload_n 3, 1) := by decide +kernel
theorem dX7_run_17 : decode cX7_run 17 = .ok (.iconst 1, 1) := by decide +kernel
theorem dX7_run_18 : decode cX7_run 18 = .ok (.bipush 40, 2) := by decide +kernel
theorem dX7_run_20 : decode cX7_run 20 = .ok (.invokestatic 63, 3) := by decide +kernel
theorem dX7_run_23 : decode cX7_run 23 = .ok (.ifCond .ne 5, 3) := by decide +kernel
theorem dX7_run_26 : decode cX7_run 26 = .ok (.iconst (-1), 1) := by decide +kernel
theorem dX7_run_27 : decode cX7_run 27 = .ok (.ireturn, 1) := by decide +kernel
theorem dX7_run_28 : decode cX7_run 28 = .ok (.iload_n 3, 1) := by decide +kernel
theorem dX7_run_29 : decode cX7_run 29 = .ok (.aload 4, 2) := by decide +kernel
theorem dX7_run_31 : decode cX7_run 31 = .ok (.invokevirtual 81, 3) := by decide +kernel
theorem dX7_run_34 : decode cX7_run 34 = .ok (.if_icmp .le 6, 3) := by decide +kernel
theorem dX7_run_37 : decode cX7_run 37 = .ok (.bipush (-2), 2) := by decide +kernel
theorem dX7_run_39 : decode cX7_run 39 = .ok (.ireturn, 1) := by decide +kernel
theorem dX7_run_40 : decode cX7_run 40 = .ok (.aload 4, 2) := by decide +kernel
theorem dX7_run_42 : decode cX7_run 42 = .ok (.dup, 1) := by decide +kernel
theorem dX7_run_43 : decode cX7_run 43 = .ok (.getfield 86, 3) := by decide +kernel
theorem dX7_run_46 : decode cX7_run 46 = .ok (.iload_n 3, 1) := by decide +kernel
theorem dX7_run_47 : decode cX7_run 47 = .ok (.iadd, 1) := by decide +kernel
theorem dX7_run_48 : decode cX7_run 48 = .ok (.putfield 86, 3) := by decide +kernel
theorem dX7_run_51 : decode cX7_run 51 = .ok (.aload_n 0, 1) := by decide +kernel
theorem dX7_run_52 : decode cX7_run 52 = .ok (.getfield 26, 3) := by decide +kernel
theorem dX7_run_55 : decode cX7_run 55 = .ok (.aload 4, 2) := by decide +kernel
theorem dX7_run_57 : decode cX7_run 57 = .ok (.iload_n 3, 1) := by decide +kernel
theorem dX7_run_58 : decode cX7_run 58 = .ok (.invokevirtual 89, 3) := by decide +kernel
theorem dX7_run_61 : decode cX7_run 61 = .ok (.iload_n 3, 1) := by decide +kernel
theorem dX7_run_62 : decode cX7_run 62 = .ok (.aload 4, 2) := by decide +kernel
theorem dX7_run_64 : decode cX7_run 64 = .ok (.getfield 93, 3) := by decide +kernel
theorem dX7_run_67 : decode cX7_run 67 = .ok (.imul, 1) := by decide +kernel
theorem dX7_run_68 : decode cX7_run 68 = .ok (.ireturn, 1) := by decide +kernel
theorem dX7_spoil_0 : decode cX7_spoil 0 = .ok (.aload_n 0, 1) := by decide +kernel
theorem dX7_spoil_1 : decode cX7_spoil 1 = .ok (.getfield 33, 3) := by decide +kernel
theorem dX7_spoil_4 : decode cX7_spoil 4 = .ok (.iload_n 1, 1) := by decide +kernel
theorem dX7_spoil_5 : decode cX7_spoil 5 = .ok (.invokevirtual 96, 3) := by decide +kernel
theorem dX7_spoil_8 : decode cX7_spoil 8 = .ok (.astore_n 3, 1) := by decide +kernel
theorem dX7_spoil_9 : decode cX7_spoil 9 = .ok (.aload_n 3, 1) := by decide +kernel
theorem dX7_spoil_10 : decode cX7_spoil 10 = .ok (.ifnull 11, 3) := by decide +kernel
theorem dX7_spoil_13 : decode cX7_spoil 13 = .ok (.aload_n 3, 1) := by decide +kernel
theorem dX7_spoil_14 : decode cX7_spoil 14 = .ok (.iload_n 2, 1) := by decide +kernel
theorem dX7_spoil_15 : decode cX7_spoil 15 = .ok (.invokevirtual 100, 3) := by decide +kernel
theorem dX7_spoil_18 : decode cX7_spoil 18 = .ok (.ifCond .ne 5, 3) := by decide +kernel
theorem dX7_spoil_21 : decode cX7_spoil 21 = .ok (.iconst (-1), 1) := by decide +kernel
theorem dX7_spoil_22 : decode cX7_spoil 22 = .ok (.ireturn, 1) := by decide +kernel
theorem dX7_spoil_23 : decode cX7_spoil 23 = .ok (.aload_n 3, 1) := by decide +kernel
theorem dX7_spoil_24 : decode cX7_spoil 24 = .ok (.iload_n 2, 1) := by decide +kernel
theorem dX7_spoil_25 : decode cX7_spoil 25 = .ok (.invokevirtual 105, 3) := by decide +kernel
theorem dX7_spoil_28 : decode cX7_spoil 28 = .ok (.ifCond .eq 15, 3) := by decide +kernel
theorem dX7_spoil_31 : decode cX7_spoil 31 = .ok (.aload_n 0, 1) := by decide +kernel
theorem dX7_spoil_32 : decode cX7_spoil 32 = .ok (.getfield 19, 3) := by decide +kernel
theorem dX7_spoil_35 : decode cX7_spoil 35 = .ok (.iload_n 1, 1) := by decide +kernel
theorem dX7_spoil_36 : decode cX7_spoil 36 = .ok (.iload_n 2, 1) := by decide +kernel
theorem dX7_spoil_37 : decode cX7_spoil 37 = .ok (.invokevirtual 108, 3) := by decide +kernel
theorem dX7_spoil_40 : decode cX7_spoil 40 = .ok (.ifCond .eq 6, 3) := by decide +kernel
theorem dX7_spoil_43 : decode cX7_spoil 43 = .ok (.bipush (-2), 2) := by decide +kernel
theorem dX7_spoil_45 : decode cX7_spoil 45 = .ok (.ireturn, 1) := by decide +kernel
theorem dX7_spoil_46 : decode cX7_spoil 46 = .ok (.aload_n 0, 1) := by decide +kernel
theorem dX7_spoil_47 : decode cX7_spoil 47 = .ok (.getfield 19, 3) := by decide +kernel
theorem dX7_spoil_50 : decode cX7_spoil 50 = .ok (.invokevirtual 112, 3) := by decide +kernel
theorem dX7_spoil_53 : decode cX7_spoil 53 = .ok (.iconst 1, 1) := by decide +kernel
theorem dX7_spoil_54 : decode cX7_spoil 54 = .ok (.if_icmp .ge 6, 3) := by decide +kernel
theorem dX7_spoil_57 : decode cX7_spoil 57 = .ok (.bipush (-3), 2) := by decide +kernel
theorem dX7_spoil_59 : decode cX7_spoil 59 = .ok (.ireturn, 1) := by decide +kernel
theorem dX7_spoil_60 : decode cX7_spoil 60 = .ok (.aload_n 0, 1) := by decide +kernel
theorem dX7_spoil_61 : decode cX7_spoil 61 = .ok (.getfield 19, 3) := by decide +kernel
theorem dX7_spoil_64 : decode cX7_spoil 64 = .ok (.iload_n 1, 1) := by decide +kernel
theorem dX7_spoil_65 : decode cX7_spoil 65 = .ok (.iload_n 2, 1) := by decide +kernel
theorem dX7_spoil_66 : decode cX7_spoil 66 = .ok (.invokevirtual 115, 3) := by decide +kernel
theorem dX7_spoil_69 : decode cX7_spoil 69 = .ok (.aload_n 0, 1) := by decide +kernel
theorem dX7_spoil_70 : decode cX7_spoil 70 = .ok (.getfield 26, 3) := by decide +kernel
theorem dX7_spoil_73 : decode cX7_spoil 73 = .ok (.iconst 1, 1) := by decide +kernel
theorem dX7_spoil_74 : decode cX7_spoil 74 = .ok (.invokevirtual 119, 3) := by decide +kernel
theorem dX7_spoil_77 : decode cX7_spoil 77 = .ok (.aload_n 0, 1) := by decide +kernel
theorem dX7_spoil_78 : decode cX7_spoil 78 = .ok (.getfield 19, 3) := by decide +kernel
theorem dX7_spoil_81 : decode cX7_spoil 81 = .ok (.getfield 123, 3) := by decide +kernel
theorem dX7_spoil_84 : decode cX7_spoil 84 = .ok (.iconst 1, 1) := by decide +kernel
theorem dX7_spoil_85 : decode cX7_spoil 85 = .ok (.isub, 1) := by decide +kernel
theorem dX7_spoil_86 : decode cX7_spoil 86 = .ok (.ireturn, 1) := by decide +kernel
theorem dX7_spoilSheet_0 : decode cX7_spoilSheet 0 = .ok (.aload_n 0, 1) := by decide +kernel
theorem dX7_spoilSheet_1 : decode cX7_spoilSheet 1 = .ok (.getfield 33, 3) := by decide +kernel
theorem dX7_spoilSheet_4 : decode cX7_spoilSheet 4 = .ok (.iload_n 1, 1) := by decide +kernel
theorem dX7_spoilSheet_5 : decode cX7_spoilSheet 5 = .ok (.iload_n 2, 1) := by decide +kernel
theorem dX7_spoilSheet_6 : decode cX7_spoilSheet 6 = .ok (.invokevirtual 77, 3) := by decide +kernel
theorem dX7_spoilSheet_9 : decode cX7_spoilSheet 9 = .ok (.astore 4, 2) := by decide +kernel
theorem dX7_spoilSheet_11 : decode cX7_spoilSheet 11 = .ok (.aload 4, 2) := by decide +kernel
theorem dX7_spoilSheet_13 : decode cX7_spoilSheet 13 = .ok (.ifnull 12, 3) := by decide +kernel
theorem dX7_spoilSheet_16 : decode cX7_spoilSheet 16 = .ok (.aload 4, 2) := by decide +kernel
theorem dX7_spoilSheet_18 : decode cX7_spoilSheet 18 = .ok (.iload_n 3, 1) := by decide +kernel
theorem dX7_spoilSheet_19 : decode cX7_spoilSheet 19 = .ok (.invokevirtual 126, 3) := by decide +kernel
theorem dX7_spoilSheet_22 : decode cX7_spoilSheet 22 = .ok (.ifCond .ne 5, 3) := by decide +kernel
theorem dX7_spoilSheet_25 : decode cX7_spoilSheet 25 = .ok (.iconst (-1), 1) := by decide +kernel
theorem dX7_spoilSheet_26 : decode cX7_spoilSheet 26 = .ok (.ireturn, 1) := by decide +kernel
theorem dX7_spoilSheet_27 : decode cX7_spoilSheet 27 = .ok (.aload_n 0, 1) := by decide +kernel
theorem dX7_spoilSheet_28 : decode cX7_spoilSheet 28 = .ok (.iload_n 1, 1) := by decide +kernel
theorem dX7_spoilSheet_29 : decode cX7_spoilSheet 29 = .ok (.aload 4, 2) := by decide +kernel
theorem dX7_spoilSheet_31 : decode cX7_spoilSheet 31 = .ok (.iload_n 3, 1) := by decide +kernel
theorem dX7_spoilSheet_32 : decode cX7_spoilSheet 32 = .ok (.invokevirtual 129, 3) := by decide +kernel
theorem dX7_spoilSheet_35 : decode cX7_spoilSheet 35 = .ok (.istore 5, 2) := by decide +kernel
theorem dX7_spoilSheet_37 : decode cX7_spoilSheet 37 = .ok (.iload_n 3, 1) := by decide +kernel
theorem dX7_spoilSheet_38 : decode cX7_spoilSheet 38 = .ok (.aload 4, 2) := by decide +kernel
theorem dX7_spoilSheet_40 : decode cX7_spoilSheet 40 = .ok (.getfield 86, 3) := by decide +kernel
theorem dX7_spoilSheet_43 : decode cX7_spoilSheet 43 = .ok (.if_icmp .ge 8, 3) := by decide +kernel
theorem dX7_spoilSheet_46 : decode cX7_spoilSheet 46 = .ok (.iload 5, 2) := by decide +kernel
theorem dX7_spoilSheet_48 : decode cX7_spoilSheet 48 = .ok (.ifCond .ne 6, 3) := by decide +kernel
theorem dX7_spoilSheet_51 : decode cX7_spoilSheet 51 = .ok (.bipush (-2), 2) := by decide +kernel
theorem dX7_spoilSheet_53 : decode cX7_spoilSheet 53 = .ok (.ireturn, 1) := by decide +kernel
theorem dX7_spoilSheet_54 : decode cX7_spoilSheet 54 = .ok (.aload_n 0, 1) := by decide +kernel
theorem dX7_spoilSheet_55 : decode cX7_spoilSheet 55 = .ok (.getfield 19, 3) := by decide +kernel
theorem dX7_spoilSheet_58 : decode cX7_spoilSheet 58 = .ok (.invokevirtual 112, 3) := by decide +kernel
theorem dX7_spoilSheet_61 : decode cX7_spoilSheet 61 = .ok (.iload 5, 2) := by decide +kernel
theorem dX7_spoilSheet_63 : decode cX7_spoilSheet 63 = .ok (.if_icmp .ge 6, 3) := by decide +kernel
theorem dX7_spoilSheet_66 : decode cX7_spoilSheet 66 = .ok (.bipush (-3), 2) := by decide +kernel
theorem dX7_spoilSheet_68 : decode cX7_spoilSheet 68 = .ok (.ireturn, 1) := by decide +kernel
theorem dX7_spoilSheet_69 : decode cX7_spoilSheet 69 = .ok (.iconst 0, 1) := by decide +kernel
theorem dX7_spoilSheet_70 : decode cX7_spoilSheet 70 = .ok (.istore 6, 2) := by decide +kernel
theorem dX7_spoilSheet_72 : decode cX7_spoilSheet 72 = .ok (.iload 6, 2) := by decide +kernel
theorem dX7_spoilSheet_74 : decode cX7_spoilSheet 74 = .ok (.aload 4, 2) := by decide +kernel
theorem dX7_spoilSheet_76 : decode cX7_spoilSheet 76 = .ok (.getfield 93, 3) := by decide +kernel
theorem dX7_spoilSheet_79 : decode cX7_spoilSheet 79 = .ok (.if_icmp .ge 42, 3) := by decide +kernel
theorem dX7_spoilSheet_82 : decode cX7_spoilSheet 82 = .ok (.aload 4, 2) := by decide +kernel
theorem dX7_spoilSheet_84 : decode cX7_spoilSheet 84 = .ok (.iload_n 3, 1) := by decide +kernel
theorem dX7_spoilSheet_85 : decode cX7_spoilSheet 85 = .ok (.iload 6, 2) := by decide +kernel
theorem dX7_spoilSheet_87 : decode cX7_spoilSheet 87 = .ok (.invokevirtual 133, 3) := by decide +kernel
theorem dX7_spoilSheet_90 : decode cX7_spoilSheet 90 = .ok (.istore 7, 2) := by decide +kernel
theorem dX7_spoilSheet_92 : decode cX7_spoilSheet 92 = .ok (.aload_n 0, 1) := by decide +kernel
theorem dX7_spoilSheet_93 : decode cX7_spoilSheet 93 = .ok (.getfield 19, 3) := by decide +kernel
theorem dX7_spoilSheet_96 : decode cX7_spoilSheet 96 = .ok (.iload_n 1, 1) := by decide +kernel
theorem dX7_spoilSheet_97 : decode cX7_spoilSheet 97 = .ok (.iload 7, 2) := by decide +kernel
theorem dX7_spoilSheet_99 : decode cX7_spoilSheet 99 = .ok (.invokevirtual 108, 3) := by decide +kernel
theorem dX7_spoilSheet_102 : decode cX7_spoilSheet 102 = .ok (.ifCond .ne 13, 3) := by decide +kernel
theorem dX7_spoilSheet_105 : decode cX7_spoilSheet 105 = .ok (.aload_n 0, 1) := by decide +kernel
theorem dX7_spoilSheet_106 : decode cX7_spoilSheet 106 = .ok (.getfield 19, 3) := by decide +kernel
theorem dX7_spoilSheet_109 : decode cX7_spoilSheet 109 = .ok (.iload_n 1, 1) := by decide +kernel
theorem dX7_spoilSheet_110 : decode cX7_spoilSheet 110 = .ok (.iload 7, 2) := by decide +kernel
theorem dX7_spoilSheet_112 : decode cX7_spoilSheet 112 = .ok (.invokevirtual 115, 3) := by decide +kernel
theorem dX7_spoilSheet_115 : decode cX7_spoilSheet 115 = .ok (.iinc 6 1, 3) := by decide +kernel
theorem dX7_spoilSheet_118 : decode cX7_spoilSheet 118 = .ok (.goto (-46), 3) := by decide +kernel
theorem dX7_spoilSheet_121 : decode cX7_spoilSheet 121 = .ok (.aload_n 0, 1) := by decide +kernel
theorem dX7_spoilSheet_122 : decode cX7_spoilSheet 122 = .ok (.getfield 26, 3) := by decide +kernel
theorem dX7_spoilSheet_125 : decode cX7_spoilSheet 125 = .ok (.iload 5, 2) := by decide +kernel
theorem dX7_spoilSheet_127 : decode cX7_spoilSheet 127 = .ok (.invokevirtual 119, 3) := by decide +kernel
theorem dX7_spoilSheet_130 : decode cX7_spoilSheet 130 = .ok (.iload 5, 2) := by decide +kernel
theorem dX7_spoilSheet_132 : decode cX7_spoilSheet 132 = .ok (.ireturn, 1) := by decide +kernel
theorem dX7_undo_0 : decode cX7_undo 0 = .ok (.aload_n 0, 1) := by decide +kernel
theorem dX7_undo_1 : decode cX7_undo 1 = .ok (.getfield 26, 3) := by decide +kernel
theorem dX7_undo_4 : decode cX7_undo 4 = .ok (.getfield 137, 3) := by decide +kernel
theorem dX7_undo_7 : decode cX7_undo 7 = .ok (.iconst 1, 1) := by decide +kernel
theorem dX7_undo_8 : decode cX7_undo 8 = .ok (.if_icmp .ge 6, 3) := by decide +kernel
theorem dX7_undo_11 : decode cX7_undo 11 = .ok (.bipush (-2), 2) := by decide +kernel
theorem dX7_undo_13 : decode cX7_undo 13 = .ok (.ireturn, 1) := by decide +kernel
theorem dX7_undo_14 : decode cX7_undo 14 = .ok (.aload_n 0, 1) := by decide +kernel
theorem dX7_undo_15 : decode cX7_undo 15 = .ok (.getfield 26, 3) := by decide +kernel
theorem dX7_undo_18 : decode cX7_undo 18 = .ok (.invokevirtual 140, 3) := by decide +kernel
theorem dX7_undo_21 : decode cX7_undo 21 = .ok (.astore_n 1, 1) := by decide +kernel
theorem dX7_undo_22 : decode cX7_undo 22 = .ok (.aload_n 0, 1) := by decide +kernel
theorem dX7_undo_23 : decode cX7_undo 23 = .ok (.getfield 26, 3) := by decide +kernel
theorem dX7_undo_26 : decode cX7_undo 26 = .ok (.invokevirtual 144, 3) := by decide +kernel
theorem dX7_undo_29 : decode cX7_undo 29 = .ok (.istore_n 2, 1) := by decide +kernel
theorem dX7_undo_30 : decode cX7_undo 30 = .ok (.aload_n 1, 1) := by decide +kernel
theorem dX7_undo_31 : decode cX7_undo 31 = .ok (.ifnonnull 14, 3) := by decide +kernel
theorem dX7_undo_34 : decode cX7_undo 34 = .ok (.aload_n 0, 1) := by decide +kernel
theorem dX7_undo_35 : decode cX7_undo 35 = .ok (.getfield 19, 3) := by decide +kernel
theorem dX7_undo_38 : decode cX7_undo 38 = .ok (.iload_n 2, 1) := by decide +kernel
theorem dX7_undo_39 : decode cX7_undo 39 = .ok (.invokevirtual 147, 3) := by decide +kernel
theorem dX7_undo_42 : decode cX7_undo 42 = .ok (.goto 13, 3) := by decide +kernel
theorem dX7_undo_45 : decode cX7_undo 45 = .ok (.aload_n 1, 1) := by decide +kernel
theorem dX7_undo_46 : decode cX7_undo 46 = .ok (.dup, 1) := by decide +kernel
theorem dX7_undo_47 : decode cX7_undo 47 = .ok (.getfield 86, 3) := by decide +kernel
theorem dX7_undo_50 : decode cX7_undo 50 = .ok (.iload_n 2, 1) := by decide +kernel
theorem dX7_undo_51 : decode cX7_undo 51 = .ok (.isub, 1) := by decide +kernel
theorem dX7_undo_52 : decode cX7_undo 52 = .ok (.putfield 86, 3) := by decide +kernel
theorem dX7_undo_55 : decode cX7_undo 55 = .ok (.aload_n 0, 1) := by decide +kernel
theorem dX7_undo_56 : decode cX7_undo 56 = .ok (.getfield 26, 3) := by decide +kernel
theorem dX7_undo_59 : decode cX7_undo 59 = .ok (.invokevirtual 150, 3) := by decide +kernel
theorem dX7_undo_62 : decode cX7_undo 62 = .ok (.aload_n 0, 1) := by decide +kernel
theorem dX7_undo_63 : decode cX7_undo 63 = .ok (.getfield 26, 3) := by decide +kernel
theorem dX7_undo_66 : decode cX7_undo 66 = .ok (.getfield 137, 3) := by decide +kernel
theorem dX7_undo_69 : decode cX7_undo 69 = .ok (.ireturn, 1) := by decide +kernel
theorem dX7_series_0 : decode cX7_series 0 = .ok (.aload_n 0, 1) := by decide +kernel
theorem dX7_series_1 : decode cX7_series 1 = .ok (.getfield 33, 3) := by decide +kernel
theorem dX7_series_4 : decode cX7_series 4 = .ok (.iload_n 1, 1) := by decide +kernel
theorem dX7_series_5 : decode cX7_series 5 = .ok (.invokevirtual 96, 3) := by decide +kernel
theorem dX7_series_8 : decode cX7_series 8 = .ok (.astore_n 3, 1) := by decide +kernel
theorem dX7_series_9 : decode cX7_series 9 = .ok (.aload_n 3, 1) := by decide +kernel
theorem dX7_series_10 : decode cX7_series 10 = .ok (.ifnonnull 5, 3) := by decide +kernel
theorem dX7_series_13 : decode cX7_series 13 = .ok (.iconst (-1), 1) := by decide +kernel
theorem dX7_series_14 : decode cX7_series 14 = .ok (.ireturn, 1) := by decide +kernel
theorem dX7_series_15 : decode cX7_series 15 = .ok (.iload_n 2, 1) := by decide +kernel
theorem dX7_series_16 : decode cX7_series 16 = .ok (.tableswitch 92 0 7 #[48, 53, 58, 63, 68, 77, 82, 87], 48) := by decide +kernel
theorem dX7_series_64 : decode cX7_series 64 = .ok (.aload_n 3, 1) := by decide +kernel
theorem dX7_series_65 : decode cX7_series 65 = .ok (.getfield 153, 3) := by decide +kernel
theorem dX7_series_68 : decode cX7_series 68 = .ok (.ireturn, 1) := by decide +kernel
theorem dX7_series_69 : decode cX7_series 69 = .ok (.aload_n 3, 1) := by decide +kernel
theorem dX7_series_70 : decode cX7_series 70 = .ok (.getfield 156, 3) := by decide +kernel
theorem dX7_series_73 : decode cX7_series 73 = .ok (.ireturn, 1) := by decide +kernel
theorem dX7_series_74 : decode cX7_series 74 = .ok (.aload_n 3, 1) := by decide +kernel
theorem dX7_series_75 : decode cX7_series 75 = .ok (.getfield 159, 3) := by decide +kernel
theorem dX7_series_78 : decode cX7_series 78 = .ok (.ireturn, 1) := by decide +kernel
theorem dX7_series_79 : decode cX7_series 79 = .ok (.aload_n 3, 1) := by decide +kernel
theorem dX7_series_80 : decode cX7_series 80 = .ok (.invokevirtual 162, 3) := by decide +kernel
theorem dX7_series_83 : decode cX7_series 83 = .ok (.ireturn, 1) := by decide +kernel
theorem dX7_series_84 : decode cX7_series 84 = .ok (.aload_n 0, 1) := by decide +kernel
theorem dX7_series_85 : decode cX7_series 85 = .ok (.getfield 19, 3) := by decide +kernel
theorem dX7_series_88 : decode cX7_series 88 = .ok (.iload_n 1, 1) := by decide +kernel
theorem dX7_series_89 : decode cX7_series 89 = .ok (.invokevirtual 165, 3) := by decide +kernel
theorem dX7_series_92 : decode cX7_series 92 = .ok (.ireturn, 1) := by decide +kernel
theorem dX7_series_93 : decode cX7_series 93 = .ok (.aload_n 3, 1) := by decide +kernel
theorem dX7_series_94 : decode cX7_series 94 = .ok (.invokevirtual 169, 3) := by decide +kernel
theorem dX7_series_97 : decode cX7_series 97 = .ok (.ireturn, 1) := by decide +kernel
theorem dX7_series_98 : decode cX7_series 98 = .ok (.aload_n 3, 1) := by decide +kernel
theorem dX7_series_99 : decode cX7_series 99 = .ok (.invokevirtual 170, 3) := by decide +kernel
theorem dX7_series_102 : decode cX7_series 102 = .ok (.ireturn, 1) := by decide +kernel
theorem dX7_series_103 : decode cX7_series 103 = .ok (.aload_n 3, 1) := by decide +kernel
theorem dX7_series_104 : decode cX7_series 104 = .ok (.invokevirtual 173, 3) := by decide +kernel
theorem dX7_series_107 : decode cX7_series 107 = .ok (.ireturn, 1) := by decide +kernel
theorem dX7_series_108 : decode cX7_series 108 = .ok (.iconst (-1), 1) := by decide +kernel
theorem dX7_series_109 : decode cX7_series 109 = .ok (.ireturn, 1) := by decide +kernel
theorem dX7_share_0 : decode cX7_share 0 = .ok (.aload_n 0, 1) := by decide +kernel
theorem dX7_share_1 : decode cX7_share 1 = .ok (.getfield 33, 3) := by decide +kernel
theorem dX7_share_4 : decode cX7_share 4 = .ok (.iload_n 1, 1) := by decide +kernel
theorem dX7_share_5 : decode cX7_share 5 = .ok (.iload_n 2, 1) := by decide +kernel
theorem dX7_share_6 : decode cX7_share 6 = .ok (.invokevirtual 77, 3) := by decide +kernel
theorem dX7_share_9 : decode cX7_share 9 = .ok (.astore 4, 2) := by decide +kernel
theorem dX7_share_11 : decode cX7_share 11 = .ok (.aload 4, 2) := by decide +kernel
theorem dX7_share_13 : decode cX7_share 13 = .ok (.ifnonnull 5, 3) := by decide +kernel
theorem dX7_share_16 : decode cX7_share 16 = .ok (.iconst (-1), 1) := by decide +kernel
theorem dX7_share_17 : decode cX7_share 17 = .ok (.ireturn, 1) := by decide +kernel
theorem dX7_share_18 : decode cX7_share 18 = .ok (.iload_n 3, 1) := by decide +kernel
theorem dX7_share_19 : decode cX7_share 19 = .ok (.tableswitch 53 0 3 #[29, 35, 41, 47], 29) := by decide +kernel
theorem dX7_share_48 : decode cX7_share 48 = .ok (.aload 4, 2) := by decide +kernel
theorem dX7_share_50 : decode cX7_share 50 = .ok (.getfield 176, 3) := by decide +kernel
theorem dX7_share_53 : decode cX7_share 53 = .ok (.ireturn, 1) := by decide +kernel
theorem dX7_share_54 : decode cX7_share 54 = .ok (.aload 4, 2) := by decide +kernel
theorem dX7_share_56 : decode cX7_share 56 = .ok (.getfield 86, 3) := by decide +kernel
theorem dX7_share_59 : decode cX7_share 59 = .ok (.ireturn, 1) := by decide +kernel
theorem dX7_share_60 : decode cX7_share 60 = .ok (.aload 4, 2) := by decide +kernel
theorem dX7_share_62 : decode cX7_share 62 = .ok (.getfield 179, 3) := by decide +kernel
theorem dX7_share_65 : decode cX7_share 65 = .ok (.ireturn, 1) := by decide +kernel
theorem dX7_share_66 : decode cX7_share 66 = .ok (.aload 4, 2) := by decide +kernel
theorem dX7_share_68 : decode cX7_share 68 = .ok (.getfield 93, 3) := by decide +kernel
theorem dX7_share_71 : decode cX7_share 71 = .ok (.ireturn, 1) := by decide +kernel
theorem dX7_share_72 : decode cX7_share 72 = .ok (.iconst (-1), 1) := by decide +kernel
theorem dX7_share_73 : decode cX7_share 73 = .ok (.ireturn, 1) := by decide +kernel
theorem dX7_where_0 : decode cX7_where 0 = .ok (.aload_n 0, 1) := by decide +kernel
theorem dX7_where_1 : decode cX7_where 1 = .ok (.getfield 33, 3) := by decide +kernel
theorem dX7_where_4 : decode cX7_where 4 = .ok (.iload_n 1, 1) := by decide +kernel
theorem dX7_where_5 : decode cX7_where 5 = .ok (.invokevirtual 96, 3) := by decide +kernel
theorem dX7_where_8 : decode cX7_where 8 = .ok (.astore 4, 2) := by decide +kernel
theorem dX7_where_10 : decode cX7_where 10 = .ok (.aload 4, 2) := by decide +kernel
theorem dX7_where_12 : decode cX7_where 12 = .ok (.ifnonnull 5, 3) := by decide +kernel
theorem dX7_where_15 : decode cX7_where 15 = .ok (.iconst (-1), 1) := by decide +kernel
theorem dX7_where_16 : decode cX7_where 16 = .ok (.ireturn, 1) := by decide +kernel
theorem dX7_where_17 : decode cX7_where 17 = .ok (.aload 4, 2) := by decide +kernel
theorem dX7_where_19 : decode cX7_where 19 = .ok (.iload_n 2, 1) := by decide +kernel
theorem dX7_where_20 : decode cX7_where 20 = .ok (.invokevirtual 182, 3) := by decide +kernel
theorem dX7_where_23 : decode cX7_where 23 = .ok (.istore 5, 2) := by decide +kernel
theorem dX7_where_25 : decode cX7_where 25 = .ok (.aload 4, 2) := by decide +kernel
theorem dX7_where_27 : decode cX7_where 27 = .ok (.iload 5, 2) := by decide +kernel
theorem dX7_where_29 : decode cX7_where 29 = .ok (.invokevirtual 185, 3) := by decide +kernel
theorem dX7_where_32 : decode cX7_where 32 = .ok (.astore 6, 2) := by decide +kernel
theorem dX7_where_34 : decode cX7_where 34 = .ok (.aload 6, 2) := by decide +kernel
theorem dX7_where_36 : decode cX7_where 36 = .ok (.ifnonnull 5, 3) := by decide +kernel
theorem dX7_where_39 : decode cX7_where 39 = .ok (.iconst (-1), 1) := by decide +kernel
theorem dX7_where_40 : decode cX7_where 40 = .ok (.ireturn, 1) := by decide +kernel
theorem dX7_where_41 : decode cX7_where 41 = .ok (.iload_n 3, 1) := by decide +kernel
theorem dX7_where_42 : decode cX7_where 42 = .ok (.tableswitch 43 0 2 #[26, 29, 36], 26) := by decide +kernel
theorem dX7_where_68 : decode cX7_where 68 = .ok (.iload 5, 2) := by decide +kernel
theorem dX7_where_70 : decode cX7_where 70 = .ok (.ireturn, 1) := by decide +kernel
theorem dX7_where_71 : decode cX7_where 71 = .ok (.aload 6, 2) := by decide +kernel
theorem dX7_where_73 : decode cX7_where 73 = .ok (.iload_n 2, 1) := by decide +kernel
theorem dX7_where_74 : decode cX7_where 74 = .ok (.invokevirtual 188, 3) := by decide +kernel
theorem dX7_where_77 : decode cX7_where 77 = .ok (.ireturn, 1) := by decide +kernel
theorem dX7_where_78 : decode cX7_where 78 = .ok (.aload 6, 2) := by decide +kernel
theorem dX7_where_80 : decode cX7_where 80 = .ok (.iload_n 2, 1) := by decide +kernel
theorem dX7_where_81 : decode cX7_where 81 = .ok (.invokevirtual 191, 3) := by decide +kernel
theorem dX7_where_84 : decode cX7_where 84 = .ok (.ireturn, 1) := by decide +kernel
theorem dX7_where_85 : decode cX7_where 85 = .ok (.iconst (-1), 1) := by decide +kernel
theorem dX7_where_86 : decode cX7_where 86 = .ok (.ireturn, 1) := by decide +kernel
theorem dX7_number_0 : decode cX7_number 0 = .ok (.aload_n 0, 1) := by decide +kernel
theorem dX7_number_1 : decode cX7_number 1 = .ok (.getfield 33, 3) := by decide +kernel
theorem dX7_number_4 : decode cX7_number 4 = .ok (.iload_n 1, 1) := by decide +kernel
theorem dX7_number_5 : decode cX7_number 5 = .ok (.iload_n 2, 1) := by decide +kernel
theorem dX7_number_6 : decode cX7_number 6 = .ok (.invokevirtual 77, 3) := by decide +kernel
theorem dX7_number_9 : decode cX7_number 9 = .ok (.astore 5, 2) := by decide +kernel
theorem dX7_number_11 : decode cX7_number 11 = .ok (.aload 5, 2) := by decide +kernel
theorem dX7_number_13 : decode cX7_number 13 = .ok (.ifnull 28, 3) := by decide +kernel
theorem dX7_number_16 : decode cX7_number 16 = .ok (.aload 5, 2) := by decide +kernel
theorem dX7_number_18 : decode cX7_number 18 = .ok (.iload_n 3, 1) := by decide +kernel
theorem dX7_number_19 : decode cX7_number 19 = .ok (.invokevirtual 126, 3) := by decide +kernel
theorem dX7_number_22 : decode cX7_number 22 = .ok (.ifCond .eq 19, 3) := by decide +kernel
theorem dX7_number_25 : decode cX7_number 25 = .ok (.iload 4, 2) := by decide +kernel
theorem dX7_number_27 : decode cX7_number 27 = .ok (.iconst 0, 1) := by decide +kernel
theorem dX7_number_28 : decode cX7_number 28 = .ok (.aload 5, 2) := by decide +kernel
theorem dX7_number_30 : decode cX7_number 30 = .ok (.getfield 93, 3) := by decide +kernel
theorem dX7_number_33 : decode cX7_number 33 = .ok (.iconst 1, 1) := by decide +kernel
theorem dX7_number_34 : decode cX7_number 34 = .ok (.isub, 1) := by decide +kernel
theorem dX7_number_35 : decode cX7_number 35 = .ok (.invokestatic 63, 3) := by decide +kernel
theorem dX7_number_38 : decode cX7_number 38 = .ok (.ifCond .ne 5, 3) := by decide +kernel
theorem dX7_number_41 : decode cX7_number 41 = .ok (.iconst (-1), 1) := by decide +kernel
theorem dX7_number_42 : decode cX7_number 42 = .ok (.ireturn, 1) := by decide +kernel
theorem dX7_number_43 : decode cX7_number 43 = .ok (.aload 5, 2) := by decide +kernel
theorem dX7_number_45 : decode cX7_number 45 = .ok (.iload_n 3, 1) := by decide +kernel
theorem dX7_number_46 : decode cX7_number 46 = .ok (.iload 4, 2) := by decide +kernel
theorem dX7_number_48 : decode cX7_number 48 = .ok (.invokevirtual 133, 3) := by decide +kernel
theorem dX7_number_51 : decode cX7_number 51 = .ok (.ireturn, 1) := by decide +kernel
theorem dX7_check_0 : decode cX7_check 0 = .ok (.aload_n 0, 1) := by decide +kernel
theorem dX7_check_1 : decode cX7_check 1 = .ok (.getfield 33, 3) := by decide +kernel
theorem dX7_check_4 : decode cX7_check 4 = .ok (.iload_n 1, 1) := by decide +kernel
theorem dX7_check_5 : decode cX7_check 5 = .ok (.invokevirtual 96, 3) := by decide +kernel
theorem dX7_check_8 : decode cX7_check 8 = .ok (.astore_n 3, 1) := by decide +kernel
theorem dX7_check_9 : decode cX7_check 9 = .ok (.aload_n 3, 1) := by decide +kernel
theorem dX7_check_10 : decode cX7_check 10 = .ok (.ifnull 14, 3) := by decide +kernel
theorem dX7_check_13 : decode cX7_check 13 = .ok (.iload_n 2, 1) := by decide +kernel
theorem dX7_check_14 : decode cX7_check 14 = .ok (.iconst 0, 1) := by decide +kernel
theorem dX7_check_15 : decode cX7_check 15 = .ok (.sipush 999, 3) := by decide +kernel
theorem dX7_check_18 : decode cX7_check 18 = .ok (.invokestatic 63, 3) := by decide +kernel
theorem dX7_check_21 : decode cX7_check 21 = .ok (.ifCond .ne 5, 3) := by decide +kernel
theorem dX7_check_24 : decode cX7_check 24 = .ok (.iconst (-1), 1) := by decide +kernel
theorem dX7_check_25 : decode cX7_check 25 = .ok (.ireturn, 1) := by decide +kernel
theorem dX7_check_26 : decode cX7_check 26 = .ok (.aload_n 3, 1) := by decide +kernel
theorem dX7_check_27 : decode cX7_check 27 = .ok (.getfield 156, 3) := by decide +kernel
theorem dX7_check_30 : decode cX7_check 30 = .ok (.aload_n 3, 1) := by decide +kernel
theorem dX7_check_31 : decode cX7_check 31 = .ok (.getfield 153, 3) := by decide +kernel
theorem dX7_check_34 : decode cX7_check 34 = .ok (.iload_n 2, 1) := by decide +kernel
theorem dX7_check_35 : decode cX7_check 35 = .ok (.invokestatic 194, 3) := by decide +kernel
theorem dX7_check_38 : decode cX7_check 38 = .ok (.ireturn, 1) := by decide +kernel
theorem dX7_missed_0 : decode cX7_missed 0 = .ok (.aload_n 0, 1) := by decide +kernel
theorem dX7_missed_1 : decode cX7_missed 1 = .ok (.getfield 33, 3) := by decide +kernel
theorem dX7_missed_4 : decode cX7_missed 4 = .ok (.iload_n 1, 1) := by decide +kernel
theorem dX7_missed_5 : decode cX7_missed 5 = .ok (.invokevirtual 96, 3) := by decide +kernel
theorem dX7_missed_8 : decode cX7_missed 8 = .ok (.astore 4, 2) := by decide +kernel
theorem dX7_missed_10 : decode cX7_missed 10 = .ok (.aload 4, 2) := by decide +kernel
theorem dX7_missed_12 : decode cX7_missed 12 = .ok (.ifnull 14, 3) := by decide +kernel
theorem dX7_missed_15 : decode cX7_missed 15 = .ok (.iload_n 2, 1) := by decide +kernel
theorem dX7_missed_16 : decode cX7_missed 16 = .ok (.iconst 0, 1) := by decide +kernel
theorem dX7_missed_17 : decode cX7_missed 17 = .ok (.sipush 999, 3) := by decide +kernel
theorem dX7_missed_20 : decode cX7_missed 20 = .ok (.invokestatic 63, 3) := by decide +kernel
theorem dX7_missed_23 : decode cX7_missed 23 = .ok (.ifCond .ne 5, 3) := by decide +kernel
theorem dX7_missed_26 : decode cX7_missed 26 = .ok (.iconst (-1), 1) := by decide +kernel
theorem dX7_missed_27 : decode cX7_missed 27 = .ok (.ireturn, 1) := by decide +kernel
theorem dX7_missed_28 : decode cX7_missed 28 = .ok (.iload_n 3, 1) := by decide +kernel
theorem dX7_missed_29 : decode cX7_missed 29 = .ok (.lookupswitch 57 #[(0, 27), (1, 42)], 27) := by decide +kernel
theorem dX7_missed_56 : decode cX7_missed 56 = .ok (.aload 4, 2) := by decide +kernel
theorem dX7_missed_58 : decode cX7_missed 58 = .ok (.getfield 156, 3) := by decide +kernel
theorem dX7_missed_61 : decode cX7_missed 61 = .ok (.aload 4, 2) := by decide +kernel
theorem dX7_missed_63 : decode cX7_missed 63 = .ok (.getfield 153, 3) := by decide +kernel
theorem dX7_missed_66 : decode cX7_missed 66 = .ok (.iload_n 2, 1) := by decide +kernel
theorem dX7_missed_67 : decode cX7_missed 67 = .ok (.invokestatic 200, 3) := by decide +kernel
theorem dX7_missed_70 : decode cX7_missed 70 = .ok (.ireturn, 1) := by decide +kernel
theorem dX7_missed_71 : decode cX7_missed 71 = .ok (.aload 4, 2) := by decide +kernel
theorem dX7_missed_73 : decode cX7_missed 73 = .ok (.getfield 156, 3) := by decide +kernel
theorem dX7_missed_76 : decode cX7_missed 76 = .ok (.aload 4, 2) := by decide +kernel
theorem dX7_missed_78 : decode cX7_missed 78 = .ok (.getfield 153, 3) := by decide +kernel
theorem dX7_missed_81 : decode cX7_missed 81 = .ok (.iload_n 2, 1) := by decide +kernel
theorem dX7_missed_82 : decode cX7_missed 82 = .ok (.invokestatic 203, 3) := by decide +kernel
theorem dX7_missed_85 : decode cX7_missed 85 = .ok (.ireturn, 1) := by decide +kernel
theorem dX7_missed_86 : decode cX7_missed 86 = .ok (.iconst (-1), 1) := by decide +kernel
theorem dX7_missed_87 : decode cX7_missed 87 = .ok (.ireturn, 1) := by decide +kernel
theorem dX7_note_0 : decode cX7_note 0 = .ok (.aload_n 0, 1) := by decide +kernel
theorem dX7_note_1 : decode cX7_note 1 = .ok (.getfield 33, 3) := by decide +kernel
theorem dX7_note_4 : decode cX7_note 4 = .ok (.iload_n 1, 1) := by decide +kernel
theorem dX7_note_5 : decode cX7_note 5 = .ok (.invokevirtual 96, 3) := by decide +kernel
theorem dX7_note_8 : decode cX7_note 8 = .ok (.astore_n 3, 1) := by decide +kernel
theorem dX7_note_9 : decode cX7_note 9 = .ok (.aload_n 3, 1) := by decide +kernel
theorem dX7_note_10 : decode cX7_note 10 = .ok (.ifnull 11, 3) := by decide +kernel
theorem dX7_note_13 : decode cX7_note 13 = .ok (.aload_n 3, 1) := by decide +kernel
theorem dX7_note_14 : decode cX7_note 14 = .ok (.iload_n 2, 1) := by decide +kernel
theorem dX7_note_15 : decode cX7_note 15 = .ok (.invokevirtual 100, 3) := by decide +kernel
theorem dX7_note_18 : decode cX7_note 18 = .ok (.ifCond .ne 5, 3) := by decide +kernel
theorem dX7_note_21 : decode cX7_note 21 = .ok (.iconst (-1), 1) := by decide +kernel
theorem dX7_note_22 : decode cX7_note 22 = .ok (.ireturn, 1) := by decide +kernel
theorem dX7_note_23 : decode cX7_note 23 = .ok (.aload_n 3, 1) := by decide +kernel
theorem dX7_note_24 : decode cX7_note 24 = .ok (.iload_n 2, 1) := by decide +kernel
theorem dX7_note_25 : decode cX7_note 25 = .ok (.invokevirtual 105, 3) := by decide +kernel
theorem dX7_note_28 : decode cX7_note 28 = .ok (.ifCond .ne 5, 3) := by decide +kernel
theorem dX7_note_31 : decode cX7_note 31 = .ok (.iconst 0, 1) := by decide +kernel
theorem dX7_note_32 : decode cX7_note 32 = .ok (.ireturn, 1) := by decide +kernel
theorem dX7_note_33 : decode cX7_note 33 = .ok (.aload_n 0, 1) := by decide +kernel
theorem dX7_note_34 : decode cX7_note 34 = .ok (.getfield 19, 3) := by decide +kernel
theorem dX7_note_37 : decode cX7_note 37 = .ok (.iload_n 1, 1) := by decide +kernel
theorem dX7_note_38 : decode cX7_note 38 = .ok (.iload_n 2, 1) := by decide +kernel
theorem dX7_note_39 : decode cX7_note 39 = .ok (.invokevirtual 108, 3) := by decide +kernel
theorem dX7_note_42 : decode cX7_note 42 = .ok (.ifCond .eq 7, 3) := by decide +kernel
theorem dX7_note_45 : decode cX7_note 45 = .ok (.iconst 2, 1) := by decide +kernel
theorem dX7_note_46 : decode cX7_note 46 = .ok (.goto 4, 3) := by decide +kernel
theorem dX7_note_49 : decode cX7_note 49 = .ok (.iconst 1, 1) := by decide +kernel
theorem dX7_note_50 : decode cX7_note 50 = .ok (.ireturn, 1) := by decide +kernel
theorem dX7_star_0 : decode cX7_star 0 = .ok (.iload_n 1, 1) := by decide +kernel
theorem dX7_star_1 : decode cX7_star 1 = .ok (.iconst 0, 1) := by decide +kernel
theorem dX7_star_2 : decode cX7_star 2 = .ok (.aload_n 0, 1) := by decide +kernel
theorem dX7_star_3 : decode cX7_star 3 = .ok (.getfield 19, 3) := by decide +kernel
theorem dX7_star_6 : decode cX7_star 6 = .ok (.getfield 206, 3) := by decide +kernel
theorem dX7_star_9 : decode cX7_star 9 = .ok (.iconst 1, 1) := by decide +kernel
theorem dX7_star_10 : decode cX7_star 10 = .ok (.isub, 1) := by decide +kernel
theorem dX7_star_11 : decode cX7_star 11 = .ok (.invokestatic 63, 3) := by decide +kernel
theorem dX7_star_14 : decode cX7_star 14 = .ok (.ifCond .ne 5, 3) := by decide +kernel
theorem dX7_star_17 : decode cX7_star 17 = .ok (.iconst (-1), 1) := by decide +kernel
theorem dX7_star_18 : decode cX7_star 18 = .ok (.ireturn, 1) := by decide +kernel
theorem dX7_star_19 : decode cX7_star 19 = .ok (.iload_n 2, 1) := by decide +kernel
theorem dX7_star_20 : decode cX7_star 20 = .ok (.tableswitch 51 0 2 #[28, 37, 46], 28) := by decide +kernel
theorem dX7_star_48 : decode cX7_star 48 = .ok (.aload_n 0, 1) := by decide +kernel
theorem dX7_star_49 : decode cX7_star 49 = .ok (.getfield 19, 3) := by decide +kernel
theorem dX7_star_52 : decode cX7_star 52 = .ok (.iload_n 1, 1) := by decide +kernel
theorem dX7_star_53 : decode cX7_star 53 = .ok (.invokevirtual 209, 3) := by decide +kernel
theorem dX7_star_56 : decode cX7_star 56 = .ok (.ireturn, 1) := by decide +kernel
theorem dX7_star_57 : decode cX7_star 57 = .ok (.aload_n 0, 1) := by decide +kernel
theorem dX7_star_58 : decode cX7_star 58 = .ok (.getfield 19, 3) := by decide +kernel
theorem dX7_star_61 : decode cX7_star 61 = .ok (.iload_n 1, 1) := by decide +kernel
theorem dX7_star_62 : decode cX7_star 62 = .ok (.invokevirtual 212, 3) := by decide +kernel
theorem dX7_star_65 : decode cX7_star 65 = .ok (.ireturn, 1) := by decide +kernel
theorem dX7_star_66 : decode cX7_star 66 = .ok (.iload_n 1, 1) := by decide +kernel
theorem dX7_star_67 : decode cX7_star 67 = .ok (.invokestatic 215, 3) := by decide +kernel
theorem dX7_star_70 : decode cX7_star 70 = .ok (.ireturn, 1) := by decide +kernel
theorem dX7_star_71 : decode cX7_star 71 = .ok (.iconst (-1), 1) := by decide +kernel
theorem dX7_star_72 : decode cX7_star 72 = .ok (.ireturn, 1) := by decide +kernel
theorem dX7_starOf_0 : decode cX7_starOf 0 = .ok (.aload_n 0, 1) := by decide +kernel
theorem dX7_starOf_1 : decode cX7_starOf 1 = .ok (.getfield 33, 3) := by decide +kernel
theorem dX7_starOf_4 : decode cX7_starOf 4 = .ok (.iload_n 1, 1) := by decide +kernel
theorem dX7_starOf_5 : decode cX7_starOf 5 = .ok (.invokevirtual 96, 3) := by decide +kernel
theorem dX7_starOf_8 : decode cX7_starOf 8 = .ok (.astore_n 3, 1) := by decide +kernel
theorem dX7_starOf_9 : decode cX7_starOf 9 = .ok (.aload_n 3, 1) := by decide +kernel
theorem dX7_starOf_10 : decode cX7_starOf 10 = .ok (.ifnull 11, 3) := by decide +kernel
theorem dX7_starOf_13 : decode cX7_starOf 13 = .ok (.aload_n 3, 1) := by decide +kernel
theorem dX7_starOf_14 : decode cX7_starOf 14 = .ok (.iload_n 2, 1) := by decide +kernel
theorem dX7_starOf_15 : decode cX7_starOf 15 = .ok (.invokevirtual 100, 3) := by decide +kernel
theorem dX7_starOf_18 : decode cX7_starOf 18 = .ok (.ifCond .ne 5, 3) := by decide +kernel
theorem dX7_starOf_21 : decode cX7_starOf 21 = .ok (.iconst (-1), 1) := by decide +kernel
theorem dX7_starOf_22 : decode cX7_starOf 22 = .ok (.ireturn, 1) := by decide +kernel
theorem dX7_starOf_23 : decode cX7_starOf 23 = .ok (.aload_n 0, 1) := by decide +kernel
theorem dX7_starOf_24 : decode cX7_starOf 24 = .ok (.getfield 19, 3) := by decide +kernel
theorem dX7_starOf_27 : decode cX7_starOf 27 = .ok (.iload_n 1, 1) := by decide +kernel
theorem dX7_starOf_28 : decode cX7_starOf 28 = .ok (.iload_n 2, 1) := by decide +kernel
theorem dX7_starOf_29 : decode cX7_starOf 29 = .ok (.invokevirtual 218, 3) := by decide +kernel
theorem dX7_starOf_32 : decode cX7_starOf 32 = .ok (.ireturn, 1) := by decide +kernel
theorem dX7_judge_0 : decode cX7_judge 0 = .ok (.iload_n 1, 1) := by decide +kernel
theorem dX7_judge_1 : decode cX7_judge 1 = .ok (.iconst 0, 1) := by decide +kernel
theorem dX7_judge_2 : decode cX7_judge 2 = .ok (.bipush 26, 2) := by decide +kernel
theorem dX7_judge_4 : decode cX7_judge 4 = .ok (.invokestatic 63, 3) := by decide +kernel
theorem dX7_judge_7 : decode cX7_judge 7 = .ok (.ifCond .eq 24, 3) := by decide +kernel
theorem dX7_judge_10 : decode cX7_judge 10 = .ok (.iload_n 2, 1) := by decide +kernel
theorem dX7_judge_11 : decode cX7_judge 11 = .ok (.iconst 0, 1) := by decide +kernel
theorem dX7_judge_12 : decode cX7_judge 12 = .ok (.sipush 999, 3) := by decide +kernel
theorem dX7_judge_15 : decode cX7_judge 15 = .ok (.invokestatic 63, 3) := by decide +kernel
theorem dX7_judge_18 : decode cX7_judge 18 = .ok (.ifCond .eq 13, 3) := by decide +kernel
theorem dX7_judge_21 : decode cX7_judge 21 = .ok (.iload_n 3, 1) := by decide +kernel
theorem dX7_judge_22 : decode cX7_judge 22 = .ok (.iconst 0, 1) := by decide +kernel
theorem dX7_judge_23 : decode cX7_judge 23 = .ok (.bipush 99, 2) := by decide +kernel
theorem dX7_judge_25 : decode cX7_judge 25 = .ok (.invokestatic 63, 3) := by decide +kernel
theorem dX7_judge_28 : decode cX7_judge 28 = .ok (.ifCond .ne 5, 3) := by decide +kernel
theorem dX7_judge_31 : decode cX7_judge 31 = .ok (.iconst (-1), 1) := by decide +kernel
theorem dX7_judge_32 : decode cX7_judge 32 = .ok (.ireturn, 1) := by decide +kernel
theorem dX7_judge_33 : decode cX7_judge 33 = .ok (.iload_n 1, 1) := by decide +kernel
theorem dX7_judge_34 : decode cX7_judge 34 = .ok (.ifCond .ne 12, 3) := by decide +kernel
theorem dX7_judge_37 : decode cX7_judge 37 = .ok (.aload_n 0, 1) := by decide +kernel
theorem dX7_judge_38 : decode cX7_judge 38 = .ok (.iload_n 2, 1) := by decide +kernel
theorem dX7_judge_39 : decode cX7_judge 39 = .ok (.iload_n 3, 1) := by decide +kernel
theorem dX7_judge_40 : decode cX7_judge 40 = .ok (.invokevirtual 221, 3) := by decide +kernel
theorem dX7_judge_43 : decode cX7_judge 43 = .ok (.goto 10, 3) := by decide +kernel
theorem dX7_judge_46 : decode cX7_judge 46 = .ok (.aload_n 0, 1) := by decide +kernel
theorem dX7_judge_47 : decode cX7_judge 47 = .ok (.iload_n 1, 1) := by decide +kernel
theorem dX7_judge_48 : decode cX7_judge 48 = .ok (.iload_n 2, 1) := by decide +kernel
theorem dX7_judge_49 : decode cX7_judge 49 = .ok (.iload_n 3, 1) := by decide +kernel
theorem dX7_judge_50 : decode cX7_judge 50 = .ok (.invokevirtual 224, 3) := by decide +kernel
theorem dX7_judge_53 : decode cX7_judge 53 = .ok (.ireturn, 1) := by decide +kernel
theorem dX7_pack_0 : decode cX7_pack 0 = .ok (.aload_n 0, 1) := by decide +kernel
theorem dX7_pack_1 : decode cX7_pack 1 = .ok (.getfield 33, 3) := by decide +kernel
theorem dX7_pack_4 : decode cX7_pack 4 = .ok (.iload_n 1, 1) := by decide +kernel
theorem dX7_pack_5 : decode cX7_pack 5 = .ok (.invokevirtual 96, 3) := by decide +kernel
theorem dX7_pack_8 : decode cX7_pack 8 = .ok (.astore 4, 2) := by decide +kernel
theorem dX7_pack_10 : decode cX7_pack 10 = .ok (.aload 4, 2) := by decide +kernel
theorem dX7_pack_12 : decode cX7_pack 12 = .ok (.ifnull 28, 3) := by decide +kernel
theorem dX7_pack_15 : decode cX7_pack 15 = .ok (.iload_n 2, 1) := by decide +kernel
theorem dX7_pack_16 : decode cX7_pack 16 = .ok (.iconst 0, 1) := by decide +kernel
theorem dX7_pack_17 : decode cX7_pack 17 = .ok (.aload 4, 2) := by decide +kernel
theorem dX7_pack_19 : decode cX7_pack 19 = .ok (.invokevirtual 170, 3) := by decide +kernel
theorem dX7_pack_22 : decode cX7_pack 22 = .ok (.iconst 1, 1) := by decide +kernel
theorem dX7_pack_23 : decode cX7_pack 23 = .ok (.isub, 1) := by decide +kernel
theorem dX7_pack_24 : decode cX7_pack 24 = .ok (.invokestatic 63, 3) := by decide +kernel
theorem dX7_pack_27 : decode cX7_pack 27 = .ok (.ifCond .eq 13, 3) := by decide +kernel
theorem dX7_pack_30 : decode cX7_pack 30 = .ok (.iload_n 3, 1) := by decide +kernel
theorem dX7_pack_31 : decode cX7_pack 31 = .ok (.iconst 0, 1) := by decide +kernel
theorem dX7_pack_32 : decode cX7_pack 32 = .ok (.bipush 9, 2) := by decide +kernel
theorem dX7_pack_34 : decode cX7_pack 34 = .ok (.invokestatic 63, 3) := by decide +kernel
theorem dX7_pack_37 : decode cX7_pack 37 = .ok (.ifCond .ne 5, 3) := by decide +kernel
theorem dX7_pack_40 : decode cX7_pack 40 = .ok (.iconst (-1), 1) := by decide +kernel
theorem dX7_pack_41 : decode cX7_pack 41 = .ok (.ireturn, 1) := by decide +kernel
theorem dX7_pack_42 : decode cX7_pack 42 = .ok (.aload 4, 2) := by decide +kernel
theorem dX7_pack_44 : decode cX7_pack 44 = .ok (.iload_n 2, 1) := by decide +kernel
theorem dX7_pack_45 : decode cX7_pack 45 = .ok (.invokevirtual 227, 3) := by decide +kernel
theorem dX7_pack_48 : decode cX7_pack 48 = .ok (.ifCond .ne 6, 3) := by decide +kernel
theorem dX7_pack_51 : decode cX7_pack 51 = .ok (.bipush (-2), 2) := by decide +kernel
theorem dX7_pack_53 : decode cX7_pack 53 = .ok (.ireturn, 1) := by decide +kernel
theorem dX7_pack_54 : decode cX7_pack 54 = .ok (.bipush 10, 2) := by decide +kernel
theorem dX7_pack_56 : decode cX7_pack 56 = .ok (.iload_n 2, 1) := by decide +kernel
theorem dX7_pack_57 : decode cX7_pack 57 = .ok (.imul, 1) := by decide +kernel
theorem dX7_pack_58 : decode cX7_pack 58 = .ok (.iload_n 3, 1) := by decide +kernel
theorem dX7_pack_59 : decode cX7_pack 59 = .ok (.iadd, 1) := by decide +kernel
theorem dX7_pack_60 : decode cX7_pack 60 = .ok (.istore 5, 2) := by decide +kernel
theorem dX7_pack_62 : decode cX7_pack 62 = .ok (.aload 4, 2) := by decide +kernel
theorem dX7_pack_64 : decode cX7_pack 64 = .ok (.iload 5, 2) := by decide +kernel
theorem dX7_pack_66 : decode cX7_pack 66 = .ok (.invokevirtual 100, 3) := by decide +kernel
theorem dX7_pack_69 : decode cX7_pack 69 = .ok (.ifCond .ne 6, 3) := by decide +kernel
theorem dX7_pack_72 : decode cX7_pack 72 = .ok (.bipush (-4), 2) := by decide +kernel
theorem dX7_pack_74 : decode cX7_pack 74 = .ok (.ireturn, 1) := by decide +kernel
theorem dX7_pack_75 : decode cX7_pack 75 = .ok (.aload_n 0, 1) := by decide +kernel
theorem dX7_pack_76 : decode cX7_pack 76 = .ok (.getfield 19, 3) := by decide +kernel
theorem dX7_pack_79 : decode cX7_pack 79 = .ok (.iload_n 1, 1) := by decide +kernel
theorem dX7_pack_80 : decode cX7_pack 80 = .ok (.iload 5, 2) := by decide +kernel
theorem dX7_pack_82 : decode cX7_pack 82 = .ok (.invokevirtual 218, 3) := by decide +kernel
theorem dX7_pack_85 : decode cX7_pack 85 = .ok (.istore 6, 2) := by decide +kernel
theorem dX7_pack_87 : decode cX7_pack 87 = .ok (.iload 6, 2) := by decide +kernel
theorem dX7_pack_89 : decode cX7_pack 89 = .ok (.bipush (-4), 2) := by decide +kernel
theorem dX7_pack_91 : decode cX7_pack 91 = .ok (.if_icmp .ne 8, 3) := by decide +kernel
theorem dX7_pack_94 : decode cX7_pack 94 = .ok (.iload 5, 2) := by decide +kernel
theorem dX7_pack_96 : decode cX7_pack 96 = .ok (.goto 9, 3) := by decide +kernel
theorem dX7_pack_99 : decode cX7_pack 99 = .ok (.sipush 1000, 3) := by decide +kernel
theorem dX7_pack_102 : decode cX7_pack 102 = .ok (.iload 6, 2) := by decide +kernel
theorem dX7_pack_104 : decode cX7_pack 104 = .ok (.iadd, 1) := by decide +kernel
theorem dX7_pack_105 : decode cX7_pack 105 = .ok (.ireturn, 1) := by decide +kernel
theorem dX7_count_0 : decode cX7_count 0 = .ok (.iload_n 1, 1) := by decide +kernel
theorem dX7_count_1 : decode cX7_count 1 = .ok (.tableswitch 135 0 9 #[55, 63, 71, 79, 87, 95, 103, 111, 119, 127], 55) := by decide +kernel
theorem dX7_count_56 : decode cX7_count 56 = .ok (.aload_n 0, 1) := by decide +kernel
theorem dX7_count_57 : decode cX7_count 57 = .ok (.getfield 33, 3) := by decide +kernel
theorem dX7_count_60 : decode cX7_count 60 = .ok (.getfield 230, 3) := by decide +kernel
theorem dX7_count_63 : decode cX7_count 63 = .ok (.ireturn, 1) := by decide +kernel
theorem dX7_count_64 : decode cX7_count 64 = .ok (.aload_n 0, 1) := by decide +kernel
theorem dX7_count_65 : decode cX7_count 65 = .ok (.getfield 33, 3) := by decide +kernel
theorem dX7_count_68 : decode cX7_count 68 = .ok (.getfield 74, 3) := by decide +kernel
theorem dX7_count_71 : decode cX7_count 71 = .ok (.ireturn, 1) := by decide +kernel
theorem dX7_count_72 : decode cX7_count 72 = .ok (.aload_n 0, 1) := by decide +kernel
theorem dX7_count_73 : decode cX7_count 73 = .ok (.getfield 19, 3) := by decide +kernel
theorem dX7_count_76 : decode cX7_count 76 = .ok (.getfield 206, 3) := by decide +kernel
theorem dX7_count_79 : decode cX7_count 79 = .ok (.ireturn, 1) := by decide +kernel
theorem dX7_count_80 : decode cX7_count 80 = .ok (.aload_n 0, 1) := by decide +kernel
theorem dX7_count_81 : decode cX7_count 81 = .ok (.getfield 19, 3) := by decide +kernel
theorem dX7_count_84 : decode cX7_count 84 = .ok (.getfield 123, 3) := by decide +kernel
theorem dX7_count_87 : decode cX7_count 87 = .ok (.ireturn, 1) := by decide +kernel
theorem dX7_count_88 : decode cX7_count 88 = .ok (.aload_n 0, 1) := by decide +kernel
theorem dX7_count_89 : decode cX7_count 89 = .ok (.getfield 33, 3) := by decide +kernel
theorem dX7_count_92 : decode cX7_count 92 = .ok (.invokevirtual 233, 3) := by decide +kernel
theorem dX7_count_95 : decode cX7_count 95 = .ok (.ireturn, 1) := by decide +kernel
theorem dX7_count_96 : decode cX7_count 96 = .ok (.aload_n 0, 1) := by decide +kernel
theorem dX7_count_97 : decode cX7_count 97 = .ok (.getfield 19, 3) := by decide +kernel
theorem dX7_count_100 : decode cX7_count 100 = .ok (.getfield 123, 3) := by decide +kernel
theorem dX7_count_103 : decode cX7_count 103 = .ok (.ireturn, 1) := by decide +kernel
theorem dX7_count_104 : decode cX7_count 104 = .ok (.aload_n 0, 1) := by decide +kernel
theorem dX7_count_105 : decode cX7_count 105 = .ok (.getfield 33, 3) := by decide +kernel
theorem dX7_count_108 : decode cX7_count 108 = .ok (.invokevirtual 234, 3) := by decide +kernel
theorem dX7_count_111 : decode cX7_count 111 = .ok (.ireturn, 1) := by decide +kernel
theorem dX7_count_112 : decode cX7_count 112 = .ok (.aload_n 0, 1) := by decide +kernel
theorem dX7_count_113 : decode cX7_count 113 = .ok (.getfield 33, 3) := by decide +kernel
theorem dX7_count_116 : decode cX7_count 116 = .ok (.invokevirtual 236, 3) := by decide +kernel
theorem dX7_count_119 : decode cX7_count 119 = .ok (.ireturn, 1) := by decide +kernel
theorem dX7_count_120 : decode cX7_count 120 = .ok (.aload_n 0, 1) := by decide +kernel
theorem dX7_count_121 : decode cX7_count 121 = .ok (.getfield 26, 3) := by decide +kernel
theorem dX7_count_124 : decode cX7_count 124 = .ok (.getfield 137, 3) := by decide +kernel
theorem dX7_count_127 : decode cX7_count 127 = .ok (.ireturn, 1) := by decide +kernel
theorem dX7_count_128 : decode cX7_count 128 = .ok (.aload_n 0, 1) := by decide +kernel
theorem dX7_count_129 : decode cX7_count 129 = .ok (.getfield 10, 3) := by decide +kernel
theorem dX7_count_132 : decode cX7_count 132 = .ok (.getfield 67, 3) := by decide +kernel
theorem dX7_count_135 : decode cX7_count 135 = .ok (.ireturn, 1) := by decide +kernel
theorem dX7_count_136 : decode cX7_count 136 = .ok (.iconst (-1), 1) := by decide +kernel
theorem dX7_count_137 : decode cX7_count 137 = .ok (.ireturn, 1) := by decide +kernel
theorem dX7_isFromTo_0 : decode cX7_isFromTo 0 = .ok (.iload_n 0, 1) := by decide +kernel
theorem dX7_isFromTo_1 : decode cX7_isFromTo 1 = .ok (.iload_n 1, 1) := by decide +kernel
theorem dX7_isFromTo_2 : decode cX7_isFromTo 2 = .ok (.if_icmp .lt 12, 3) := by decide +kernel
theorem dX7_isFromTo_5 : decode cX7_isFromTo 5 = .ok (.iload_n 0, 1) := by decide +kernel
theorem dX7_isFromTo_6 : decode cX7_isFromTo 6 = .ok (.iload_n 2, 1) := by decide +kernel
theorem dX7_isFromTo_7 : decode cX7_isFromTo 7 = .ok (.if_icmp .gt 7, 3) := by decide +kernel
theorem dX7_isFromTo_10 : decode cX7_isFromTo 10 = .ok (.iconst 1, 1) := by decide +kernel
theorem dX7_isFromTo_11 : decode cX7_isFromTo 11 = .ok (.goto 4, 3) := by decide +kernel
theorem dX7_isFromTo_14 : decode cX7_isFromTo 14 = .ok (.iconst 0, 1) := by decide +kernel
theorem dX7_isFromTo_15 : decode cX7_isFromTo 15 = .ok (.ireturn, 1) := by decide +kernel
theorem dX7_layText_0 : decode cX7_layText 0 = .ok (.aload_n 0, 1) := by decide +kernel
theorem dX7_layText_1 : decode cX7_layText 1 = .ok (.getfield 10, 3) := by decide +kernel
theorem dX7_layText_4 : decode cX7_layText 4 = .ok (.aload_n 0, 1) := by decide +kernel
theorem dX7_layText_5 : decode cX7_layText 5 = .ok (.getfield 37, 3) := by decide +kernel
theorem dX7_layText_8 : decode cX7_layText 8 = .ok (.invokevirtual 70, 3) := by decide +kernel
theorem dX7_layText_11 : decode cX7_layText 11 = .ok (.bipush (-4), 2) := by decide +kernel
theorem dX7_layText_13 : decode cX7_layText 13 = .ok (.if_icmp .ne 14, 3) := by decide +kernel
theorem dX7_layText_16 : decode cX7_layText 16 = .ok (.aload_n 0, 1) := by decide +kernel
theorem dX7_layText_17 : decode cX7_layText 17 = .ok (.getfield 37, 3) := by decide +kernel
theorem dX7_layText_20 : decode cX7_layText 20 = .ok (.getfield 74, 3) := by decide +kernel
theorem dX7_layText_23 : decode cX7_layText 23 = .ok (.iconst 1, 1) := by decide +kernel
theorem dX7_layText_24 : decode cX7_layText 24 = .ok (.if_icmp .ge 5, 3) := by decide +kernel
theorem dX7_layText_27 : decode cX7_layText 27 = .ok (.iconst 0, 1) := by decide +kernel
theorem dX7_layText_28 : decode cX7_layText 28 = .ok (.ireturn, 1) := by decide +kernel
theorem dX7_layText_29 : decode cX7_layText 29 = .ok (.aload_n 0, 1) := by decide +kernel
theorem dX7_layText_30 : decode cX7_layText 30 = .ok (.getfield 33, 3) := by decide +kernel
theorem dX7_layText_33 : decode cX7_layText 33 = .ok (.astore_n 1, 1) := by decide +kernel
theorem dX7_layText_34 : decode cX7_layText 34 = .ok (.aload_n 0, 1) := by decide +kernel
theorem dX7_layText_35 : decode cX7_layText 35 = .ok (.aload_n 0, 1) := by decide +kernel
theorem dX7_layText_36 : decode cX7_layText 36 = .ok (.getfield 37, 3) := by decide +kernel
theorem dX7_layText_39 : decode cX7_layText 39 = .ok (.putfield 33, 3) := by decide +kernel
theorem dX7_layText_42 : decode cX7_layText 42 = .ok (.aload_n 0, 1) := by decide +kernel
theorem dX7_layText_43 : decode cX7_layText 43 = .ok (.aload_n 1, 1) := by decide +kernel
theorem dX7_layText_44 : decode cX7_layText 44 = .ok (.putfield 37, 3) := by decide +kernel
theorem dX7_layText_47 : decode cX7_layText 47 = .ok (.aload_n 0, 1) := by decide +kernel
theorem dX7_layText_48 : decode cX7_layText 48 = .ok (.getfield 19, 3) := by decide +kernel
theorem dX7_layText_51 : decode cX7_layText 51 = .ok (.aload_n 0, 1) := by decide +kernel
theorem dX7_layText_52 : decode cX7_layText 52 = .ok (.getfield 33, 3) := by decide +kernel
theorem dX7_layText_55 : decode cX7_layText 55 = .ok (.getfield 237, 3) := by decide +kernel
theorem dX7_layText_58 : decode cX7_layText 58 = .ok (.invokevirtual 240, 3) := by decide +kernel
theorem dX7_layText_61 : decode cX7_layText 61 = .ok (.aload_n 0, 1) := by decide +kernel
theorem dX7_layText_62 : decode cX7_layText 62 = .ok (.getfield 26, 3) := by decide +kernel
theorem dX7_layText_65 : decode cX7_layText 65 = .ok (.invokevirtual 243, 3) := by decide +kernel
theorem dX7_layText_68 : decode cX7_layText 68 = .ok (.iconst 1, 1) := by decide +kernel
theorem dX7_layText_69 : decode cX7_layText 69 = .ok (.ireturn, 1) := by decide +kernel
theorem dX7_unspoiledOfSheet_0 : decode cX7_unspoiledOfSheet 0 = .ok (.iconst 0, 1) := by decide +kernel
theorem dX7_unspoiledOfSheet_1 : decode cX7_unspoiledOfSheet 1 = .ok (.istore 4, 2) := by decide +kernel
theorem dX7_unspoiledOfSheet_3 : decode cX7_unspoiledOfSheet 3 = .ok (.iconst 0, 1) := by decide +kernel
theorem dX7_unspoiledOfSheet_4 : decode cX7_unspoiledOfSheet 4 = .ok (.istore 5, 2) := by decide +kernel
theorem dX7_unspoiledOfSheet_6 : decode cX7_unspoiledOfSheet 6 = .ok (.iload 5, 2) := by decide +kernel
theorem dX7_unspoiledOfSheet_8 : decode cX7_unspoiledOfSheet 8 = .ok (.aload_n 2, 1) := by decide +kernel
theorem dX7_unspoiledOfSheet_9 : decode cX7_unspoiledOfSheet 9 = .ok (.getfield 93, 3) := by decide +kernel
theorem dX7_unspoiledOfSheet_12 : decode cX7_unspoiledOfSheet 12 = .ok (.if_icmp .ge 30, 3) := by decide +kernel
theorem dX7_unspoiledOfSheet_15 : decode cX7_unspoiledOfSheet 15 = .ok (.aload_n 0, 1) := by decide +kernel
theorem dX7_unspoiledOfSheet_16 : decode cX7_unspoiledOfSheet 16 = .ok (.getfield 19, 3) := by decide +kernel
theorem dX7_unspoiledOfSheet_19 : decode cX7_unspoiledOfSheet 19 = .ok (.iload_n 1, 1) := by decide +kernel
theorem dX7_unspoiledOfSheet_20 : decode cX7_unspoiledOfSheet 20 = .ok (.aload_n 2, 1) := by decide +kernel
theorem dX7_unspoiledOfSheet_21 : decode cX7_unspoiledOfSheet 21 = .ok (.iload_n 3, 1) := by decide +kernel
theorem dX7_unspoiledOfSheet_22 : decode cX7_unspoiledOfSheet 22 = .ok (.iload 5, 2) := by decide +kernel
theorem dX7_unspoiledOfSheet_24 : decode cX7_unspoiledOfSheet 24 = .ok (.invokevirtual 133, 3) := by decide +kernel
theorem dX7_unspoiledOfSheet_27 : decode cX7_unspoiledOfSheet 27 = .ok (.invokevirtual 108, 3) := by decide +kernel
theorem dX7_unspoiledOfSheet_30 : decode cX7_unspoiledOfSheet 30 = .ok (.ifCond .ne 6, 3) := by decide +kernel
theorem dX7_unspoiledOfSheet_33 : decode cX7_unspoiledOfSheet 33 = .ok (.iinc 4 1, 3) := by decide +kernel
theorem dX7_unspoiledOfSheet_36 : decode cX7_unspoiledOfSheet 36 = .ok (.iinc 5 1, 3) := by decide +kernel
theorem dX7_unspoiledOfSheet_39 : decode cX7_unspoiledOfSheet 39 = .ok (.goto (-33), 3) := by decide +kernel
theorem dX7_unspoiledOfSheet_42 : decode cX7_unspoiledOfSheet 42 = .ok (.iload 4, 2) := by decide +kernel
theorem dX7_unspoiledOfSheet_44 : decode cX7_unspoiledOfSheet 44 = .ok (.ireturn, 1) := by decide +kernel
theorem dX7_judgeStar_0 : decode cX7_judgeStar 0 = .ok (.iload_n 1, 1) := by decide +kernel
theorem dX7_judgeStar_1 : decode cX7_judgeStar 1 = .ok (.aload_n 0, 1) := by decide +kernel
theorem dX7_judgeStar_2 : decode cX7_judgeStar 2 = .ok (.getfield 19, 3) := by decide +kernel
theorem dX7_judgeStar_5 : decode cX7_judgeStar 5 = .ok (.getfield 206, 3) := by decide +kernel
theorem dX7_judgeStar_8 : decode cX7_judgeStar 8 = .ok (.if_icmp .lt 5, 3) := by decide +kernel
theorem dX7_judgeStar_11 : decode cX7_judgeStar 11 = .ok (.iconst 2, 1) := by decide +kernel
theorem dX7_judgeStar_12 : decode cX7_judgeStar 12 = .ok (.ireturn, 1) := by decide +kernel
theorem dX7_judgeStar_13 : decode cX7_judgeStar 13 = .ok (.iload_n 2, 1) := by decide +kernel
theorem dX7_judgeStar_14 : decode cX7_judgeStar 14 = .ok (.iload_n 1, 1) := by decide +kernel
theorem dX7_judgeStar_15 : decode cX7_judgeStar 15 = .ok (.invokestatic 215, 3) := by decide +kernel
theorem dX7_judgeStar_18 : decode cX7_judgeStar 18 = .ok (.if_icmp .eq 5, 3) := by decide +kernel
theorem dX7_judgeStar_21 : decode cX7_judgeStar 21 = .ok (.iconst 3, 1) := by decide +kernel
theorem dX7_judgeStar_22 : decode cX7_judgeStar 22 = .ok (.ireturn, 1) := by decide +kernel
theorem dX7_judgeStar_23 : decode cX7_judgeStar 23 = .ok (.iload_n 1, 1) := by decide +kernel
theorem dX7_judgeStar_24 : decode cX7_judgeStar 24 = .ok (.aload_n 0, 1) := by decide +kernel
theorem dX7_judgeStar_25 : decode cX7_judgeStar 25 = .ok (.getfield 19, 3) := by decide +kernel
theorem dX7_judgeStar_28 : decode cX7_judgeStar 28 = .ok (.getfield 123, 3) := by decide +kernel
theorem dX7_judgeStar_31 : decode cX7_judgeStar 31 = .ok (.if_icmp .lt 7, 3) := by decide +kernel
theorem dX7_judgeStar_34 : decode cX7_judgeStar 34 = .ok (.iconst 4, 1) := by decide +kernel
theorem dX7_judgeStar_35 : decode cX7_judgeStar 35 = .ok (.goto 4, 3) := by decide +kernel
theorem dX7_judgeStar_38 : decode cX7_judgeStar 38 = .ok (.iconst 0, 1) := by decide +kernel
theorem dX7_judgeStar_39 : decode cX7_judgeStar 39 = .ok (.ireturn, 1) := by decide +kernel
theorem dX7_judgeNote_0 : decode cX7_judgeNote 0 = .ok (.aload_n 0, 1) := by decide +kernel
theorem dX7_judgeNote_1 : decode cX7_judgeNote 1 = .ok (.getfield 33, 3) := by decide +kernel
theorem dX7_judgeNote_4 : decode cX7_judgeNote 4 = .ok (.iload_n 1, 1) := by decide +kernel
theorem dX7_judgeNote_5 : decode cX7_judgeNote 5 = .ok (.invokevirtual 244, 3) := by decide +kernel
theorem dX7_judgeNote_8 : decode cX7_judgeNote 8 = .ok (.istore 4, 2) := by decide +kernel
theorem dX7_judgeNote_10 : decode cX7_judgeNote 10 = .ok (.aload_n 0, 1) := by decide +kernel
theorem dX7_judgeNote_11 : decode cX7_judgeNote 11 = .ok (.getfield 33, 3) := by decide +kernel
theorem dX7_judgeNote_14 : decode cX7_judgeNote 14 = .ok (.iload 4, 2) := by decide +kernel
theorem dX7_judgeNote_16 : decode cX7_judgeNote 16 = .ok (.invokevirtual 96, 3) := by decide +kernel
theorem dX7_judgeNote_19 : decode cX7_judgeNote 19 = .ok (.astore 5, 2) := by decide +kernel
theorem dX7_judgeNote_21 : decode cX7_judgeNote 21 = .ok (.aload 5, 2) := by decide +kernel
theorem dX7_judgeNote_23 : decode cX7_judgeNote 23 = .ok (.ifnonnull 5, 3) := by decide +kernel
theorem dX7_judgeNote_26 : decode cX7_judgeNote 26 = .ok (.iconst 1, 1) := by decide +kernel
theorem dX7_judgeNote_27 : decode cX7_judgeNote 27 = .ok (.ireturn, 1) := by decide +kernel
theorem dX7_judgeNote_28 : decode cX7_judgeNote 28 = .ok (.aload 5, 2) := by decide +kernel
theorem dX7_judgeNote_30 : decode cX7_judgeNote 30 = .ok (.iload_n 2, 1) := by decide +kernel
theorem dX7_judgeNote_31 : decode cX7_judgeNote 31 = .ok (.invokevirtual 100, 3) := by decide +kernel
theorem dX7_judgeNote_34 : decode cX7_judgeNote 34 = .ok (.ifCond .ne 5, 3) := by decide +kernel
theorem dX7_judgeNote_37 : decode cX7_judgeNote 37 = .ok (.iconst 2, 1) := by decide +kernel
theorem dX7_judgeNote_38 : decode cX7_judgeNote 38 = .ok (.ireturn, 1) := by decide +kernel
theorem dX7_judgeNote_39 : decode cX7_judgeNote 39 = .ok (.iload_n 3, 1) := by decide +kernel
theorem dX7_judgeNote_40 : decode cX7_judgeNote 40 = .ok (.aload 5, 2) := by decide +kernel
theorem dX7_judgeNote_42 : decode cX7_judgeNote 42 = .ok (.getfield 156, 3) := by decide +kernel
theorem dX7_judgeNote_45 : decode cX7_judgeNote 45 = .ok (.aload 5, 2) := by decide +kernel
theorem dX7_judgeNote_47 : decode cX7_judgeNote 47 = .ok (.getfield 153, 3) := by decide +kernel
theorem dX7_judgeNote_50 : decode cX7_judgeNote 50 = .ok (.iload_n 2, 1) := by decide +kernel
theorem dX7_judgeNote_51 : decode cX7_judgeNote 51 = .ok (.invokestatic 194, 3) := by decide +kernel
theorem dX7_judgeNote_54 : decode cX7_judgeNote 54 = .ok (.if_icmp .eq 5, 3) := by decide +kernel
theorem dX7_judgeNote_57 : decode cX7_judgeNote 57 = .ok (.iconst 3, 1) := by decide +kernel
theorem dX7_judgeNote_58 : decode cX7_judgeNote 58 = .ok (.ireturn, 1) := by decide +kernel
theorem dX7_judgeNote_59 : decode cX7_judgeNote 59 = .ok (.aload 5, 2) := by decide +kernel
theorem dX7_judgeNote_61 : decode cX7_judgeNote 61 = .ok (.iload_n 2, 1) := by decide +kernel
theorem dX7_judgeNote_62 : decode cX7_judgeNote 62 = .ok (.invokevirtual 105, 3) := by decide +kernel
theorem dX7_judgeNote_65 : decode cX7_judgeNote 65 = .ok (.ifCond .ne 5, 3) := by decide +kernel
theorem dX7_judgeNote_68 : decode cX7_judgeNote 68 = .ok (.iconst 4, 1) := by decide +kernel
theorem dX7_judgeNote_69 : decode cX7_judgeNote 69 = .ok (.ireturn, 1) := by decide +kernel
theorem dX7_judgeNote_70 : decode cX7_judgeNote 70 = .ok (.aload_n 0, 1) := by decide +kernel
theorem dX7_judgeNote_71 : decode cX7_judgeNote 71 = .ok (.getfield 19, 3) := by decide +kernel
theorem dX7_judgeNote_74 : decode cX7_judgeNote 74 = .ok (.iload 4, 2) := by decide +kernel
theorem dX7_judgeNote_76 : decode cX7_judgeNote 76 = .ok (.iload_n 2, 1) := by decide +kernel
theorem dX7_judgeNote_77 : decode cX7_judgeNote 77 = .ok (.invokevirtual 108, 3) := by decide +kernel
theorem dX7_judgeNote_80 : decode cX7_judgeNote 80 = .ok (.ifCond .eq 7, 3) := by decide +kernel
theorem dX7_judgeNote_83 : decode cX7_judgeNote 83 = .ok (.iconst 5, 1) := by decide +kernel
theorem dX7_judgeNote_84 : decode cX7_judgeNote 84 = .ok (.goto 4, 3) := by decide +kernel
theorem dX7_judgeNote_87 : decode cX7_judgeNote 87 = .ok (.iconst 0, 1) := by decide +kernel
theorem dX7_judgeNote_88 : decode cX7_judgeNote 88 = .ok (.ireturn, 1) := by decide +kernel
