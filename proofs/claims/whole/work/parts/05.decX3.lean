theorem dX3_init_0 : decode cX3_init 0 = .ok (.aload_n 0, 1) := by decide +kernel
theorem dX3_init_1 : decode cX3_init 1 = .ok (.invokespecial 3, 3) := by decide +kernel
theorem dX3_init_4 : decode cX3_init 4 = .ok (.aload_n 0, 1) := by decide +kernel
theorem dX3_init_5 : decode cX3_init 5 = .ok (.new 9, 3) := by decide +kernel
theorem dX3_init_8 : decode cX3_init 8 = .ok (.dup, 1) := by decide +kernel
theorem dX3_init_9 : decode cX3_init 9 = .ok (.invokespecial 11, 3) := by decide +kernel
theorem dX3_init_12 : decode cX3_init 12 = .ok (.putfield 12, 3) := by decide +kernel
theorem dX3_init_15 : decode cX3_init 15 = .ok (.aload_n 0, 1) := by decide +kernel
theorem dX3_init_16 : decode cX3_init 16 = .ok (.iconst 0, 1) := by decide +kernel
theorem dX3_init_17 : decode cX3_init 17 = .ok (.putfield 18, 3) := by decide +kernel
theorem dX3_init_20 : decode cX3_init 20 = .ok (.aload_n 0, 1) := by decide +kernel
theorem dX3_init_21 : decode cX3_init 21 = .ok (.iconst (-1), 1) := by decide +kernel
theorem dX3_init_22 : decode cX3_init 22 = .ok (.putfield 22, 3) := by decide +kernel
theorem dX3_init_25 : decode cX3_init 25 = .ok (.aload_n 0, 1) := by decide +kernel
theorem dX3_init_26 : decode cX3_init 26 = .ok (.sipush 200, 3) := by decide +kernel
theorem dX3_init_29 : decode cX3_init 29 = .ok (.newarray .int, 2) := by decide +kernel
theorem dX3_init_31 : decode cX3_init 31 = .ok (.putfield 25, 3) := by decide +kernel
theorem dX3_init_34 : decode cX3_init 34 = .ok (.return_, 1) := by decide +kernel
theorem dX3_put_0 : decode cX3_put 0 = .ok (.bipush 24, 2) := by decide +kernel
theorem dX3_put_2 : decode cX3_put 2 = .ok (.istore_n 2, 1) := by decide +kernel
theorem dX3_put_3 : decode cX3_put 3 = .ok (.iload_n 2, 1) := by decide +kernel
theorem dX3_put_4 : decode cX3_put 4 = .ok (.ifCond .lt 35, 3) := by decide +kernel
theorem dX3_put_7 : decode cX3_put 7 = .ok (.aload_n 0, 1) := by decide +kernel
theorem dX3_put_8 : decode cX3_put 8 = .ok (.getfield 25, 3) := by decide +kernel
theorem dX3_put_11 : decode cX3_put 11 = .ok (.aload_n 0, 1) := by decide +kernel
theorem dX3_put_12 : decode cX3_put 12 = .ok (.getfield 18, 3) := by decide +kernel
theorem dX3_put_15 : decode cX3_put 15 = .ok (.iload_n 1, 1) := by decide +kernel
theorem dX3_put_16 : decode cX3_put 16 = .ok (.iload_n 2, 1) := by decide +kernel
theorem dX3_put_17 : decode cX3_put 17 = .ok (.iushr, 1) := by decide +kernel
theorem dX3_put_18 : decode cX3_put 18 = .ok (.sipush 255, 3) := by decide +kernel
theorem dX3_put_21 : decode cX3_put 21 = .ok (.iand, 1) := by decide +kernel
theorem dX3_put_22 : decode cX3_put 22 = .ok (.iastore, 1) := by decide +kernel
theorem dX3_put_23 : decode cX3_put 23 = .ok (.aload_n 0, 1) := by decide +kernel
theorem dX3_put_24 : decode cX3_put 24 = .ok (.dup, 1) := by decide +kernel
theorem dX3_put_25 : decode cX3_put 25 = .ok (.getfield 18, 3) := by decide +kernel
theorem dX3_put_28 : decode cX3_put 28 = .ok (.iconst 1, 1) := by decide +kernel
theorem dX3_put_29 : decode cX3_put 29 = .ok (.iadd, 1) := by decide +kernel
theorem dX3_put_30 : decode cX3_put 30 = .ok (.putfield 18, 3) := by decide +kernel
theorem dX3_put_33 : decode cX3_put 33 = .ok (.iinc 2 (-8), 3) := by decide +kernel
theorem dX3_put_36 : decode cX3_put 36 = .ok (.goto (-33), 3) := by decide +kernel
theorem dX3_put_39 : decode cX3_put 39 = .ok (.return_, 1) := by decide +kernel
theorem dX3_read_0 : decode cX3_read 0 = .ok (.aload_n 0, 1) := by decide +kernel
theorem dX3_read_1 : decode cX3_read 1 = .ok (.iload_n 1, 1) := by decide +kernel
theorem dX3_read_2 : decode cX3_read 2 = .ok (.iload_n 2, 1) := by decide +kernel
theorem dX3_read_3 : decode cX3_read 3 = .ok (.invokevirtual 29, 3) := by decide +kernel
theorem dX3_read_6 : decode cX3_read 6 = .ok (.aload_n 0, 1) := by decide +kernel
theorem dX3_read_7 : decode cX3_read 7 = .ok (.invokevirtual 33, 3) := by decide +kernel
theorem dX3_read_10 : decode cX3_read 10 = .ok (.iconst 0, 1) := by decide +kernel
theorem dX3_read_11 : decode cX3_read 11 = .ok (.istore_n 3, 1) := by decide +kernel
theorem dX3_read_12 : decode cX3_read 12 = .ok (.iload_n 3, 1) := by decide +kernel
theorem dX3_read_13 : decode cX3_read 13 = .ok (.aload_n 0, 1) := by decide +kernel
theorem dX3_read_14 : decode cX3_read 14 = .ok (.getfield 36, 3) := by decide +kernel
theorem dX3_read_17 : decode cX3_read 17 = .ok (.if_icmp .ge 36, 3) := by decide +kernel
theorem dX3_read_20 : decode cX3_read 20 = .ok (.aload_n 0, 1) := by decide +kernel
theorem dX3_read_21 : decode cX3_read 21 = .ok (.getfield 39, 3) := by decide +kernel
theorem dX3_read_24 : decode cX3_read 24 = .ok (.aload_n 0, 1) := by decide +kernel
theorem dX3_read_25 : decode cX3_read 25 = .ok (.getfield 36, 3) := by decide +kernel
theorem dX3_read_28 : decode cX3_read 28 = .ok (.if_icmp .ge 25, 3) := by decide +kernel
theorem dX3_read_31 : decode cX3_read 31 = .ok (.aload_n 0, 1) := by decide +kernel
theorem dX3_read_32 : decode cX3_read 32 = .ok (.getfield 42, 3) := by decide +kernel
theorem dX3_read_35 : decode cX3_read 35 = .ok (.ifCond .ne 18, 3) := by decide +kernel
theorem dX3_read_38 : decode cX3_read 38 = .ok (.aload_n 0, 1) := by decide +kernel
theorem dX3_read_39 : decode cX3_read 39 = .ok (.invokevirtual 45, 3) := by decide +kernel
theorem dX3_read_42 : decode cX3_read 42 = .ok (.pop, 1) := by decide +kernel
theorem dX3_read_43 : decode cX3_read 43 = .ok (.aload_n 0, 1) := by decide +kernel
theorem dX3_read_44 : decode cX3_read 44 = .ok (.invokevirtual 33, 3) := by decide +kernel
theorem dX3_read_47 : decode cX3_read 47 = .ok (.iinc 3 1, 3) := by decide +kernel
theorem dX3_read_50 : decode cX3_read 50 = .ok (.goto (-38), 3) := by decide +kernel
theorem dX3_read_53 : decode cX3_read 53 = .ok (.aload_n 0, 1) := by decide +kernel
theorem dX3_read_54 : decode cX3_read 54 = .ok (.getfield 42, 3) := by decide +kernel
theorem dX3_read_57 : decode cX3_read 57 = .ok (.ifCond .ne 21, 3) := by decide +kernel
theorem dX3_read_60 : decode cX3_read 60 = .ok (.aload_n 0, 1) := by decide +kernel
theorem dX3_read_61 : decode cX3_read 61 = .ok (.iconst 0, 1) := by decide +kernel
theorem dX3_read_62 : decode cX3_read 62 = .ok (.invokevirtual 49, 3) := by decide +kernel
theorem dX3_read_65 : decode cX3_read 65 = .ok (.ifCond .ne 13, 3) := by decide +kernel
theorem dX3_read_68 : decode cX3_read 68 = .ok (.aload_n 0, 1) := by decide +kernel
theorem dX3_read_69 : decode cX3_read 69 = .ok (.iconst 3, 1) := by decide +kernel
theorem dX3_read_70 : decode cX3_read 70 = .ok (.aload_n 0, 1) := by decide +kernel
theorem dX3_read_71 : decode cX3_read 71 = .ok (.getfield 36, 3) := by decide +kernel
theorem dX3_read_74 : decode cX3_read 74 = .ok (.invokevirtual 53, 3) := by decide +kernel
theorem dX3_read_77 : decode cX3_read 77 = .ok (.pop, 1) := by decide +kernel
theorem dX3_read_78 : decode cX3_read 78 = .ok (.aload_n 0, 1) := by decide +kernel
theorem dX3_read_79 : decode cX3_read 79 = .ok (.getfield 42, 3) := by decide +kernel
theorem dX3_read_82 : decode cX3_read 82 = .ok (.ireturn, 1) := by decide +kernel
theorem dX3_startReading_0 : decode cX3_startReading 0 = .ok (.aload_n 0, 1) := by decide +kernel
theorem dX3_startReading_1 : decode cX3_startReading 1 = .ok (.iconst 0, 1) := by decide +kernel
theorem dX3_startReading_2 : decode cX3_startReading 2 = .ok (.putfield 18, 3) := by decide +kernel
theorem dX3_startReading_5 : decode cX3_startReading 5 = .ok (.aload_n 0, 1) := by decide +kernel
theorem dX3_startReading_6 : decode cX3_startReading 6 = .ok (.iload_n 1, 1) := by decide +kernel
theorem dX3_startReading_7 : decode cX3_startReading 7 = .ok (.putfield 36, 3) := by decide +kernel
theorem dX3_startReading_10 : decode cX3_startReading 10 = .ok (.aload_n 0, 1) := by decide +kernel
theorem dX3_startReading_11 : decode cX3_startReading 11 = .ok (.iconst 0, 1) := by decide +kernel
theorem dX3_startReading_12 : decode cX3_startReading 12 = .ok (.putfield 39, 3) := by decide +kernel
theorem dX3_startReading_15 : decode cX3_startReading 15 = .ok (.aload_n 0, 1) := by decide +kernel
theorem dX3_startReading_16 : decode cX3_startReading 16 = .ok (.iconst 0, 1) := by decide +kernel
theorem dX3_startReading_17 : decode cX3_startReading 17 = .ok (.putfield 57, 3) := by decide +kernel
theorem dX3_startReading_20 : decode cX3_startReading 20 = .ok (.aload_n 0, 1) := by decide +kernel
theorem dX3_startReading_21 : decode cX3_startReading 21 = .ok (.iload_n 2, 1) := by decide +kernel
theorem dX3_startReading_22 : decode cX3_startReading 22 = .ok (.putfield 60, 3) := by decide +kernel
theorem dX3_startReading_25 : decode cX3_startReading 25 = .ok (.aload_n 0, 1) := by decide +kernel
theorem dX3_startReading_26 : decode cX3_startReading 26 = .ok (.iconst 0, 1) := by decide +kernel
theorem dX3_startReading_27 : decode cX3_startReading 27 = .ok (.putfield 42, 3) := by decide +kernel
theorem dX3_startReading_30 : decode cX3_startReading 30 = .ok (.aload_n 0, 1) := by decide +kernel
theorem dX3_startReading_31 : decode cX3_startReading 31 = .ok (.iconst (-1), 1) := by decide +kernel
theorem dX3_startReading_32 : decode cX3_startReading 32 = .ok (.putfield 22, 3) := by decide +kernel
theorem dX3_startReading_35 : decode cX3_startReading 35 = .ok (.aload_n 0, 1) := by decide +kernel
theorem dX3_startReading_36 : decode cX3_startReading 36 = .ok (.getfield 12, 3) := by decide +kernel
theorem dX3_startReading_39 : decode cX3_startReading 39 = .ok (.invokevirtual 63, 3) := by decide +kernel
theorem dX3_startReading_42 : decode cX3_startReading 42 = .ok (.return_, 1) := by decide +kernel
theorem dX3_readClause_0 : decode cX3_readClause 0 = .ok (.aload_n 0, 1) := by decide +kernel
theorem dX3_readClause_1 : decode cX3_readClause 1 = .ok (.getfield 39, 3) := by decide +kernel
theorem dX3_readClause_4 : decode cX3_readClause 4 = .ok (.istore_n 1, 1) := by decide +kernel
theorem dX3_readClause_5 : decode cX3_readClause 5 = .ok (.aload_n 0, 1) := by decide +kernel
theorem dX3_readClause_6 : decode cX3_readClause 6 = .ok (.invokevirtual 66, 3) := by decide +kernel
theorem dX3_readClause_9 : decode cX3_readClause 9 = .ok (.istore_n 2, 1) := by decide +kernel
theorem dX3_readClause_10 : decode cX3_readClause 10 = .ok (.iload_n 2, 1) := by decide +kernel
theorem dX3_readClause_11 : decode cX3_readClause 11 = .ok (.iconst (-1), 1) := by decide +kernel
theorem dX3_readClause_12 : decode cX3_readClause 12 = .ok (.if_icmp .eq 11, 3) := by decide +kernel
theorem dX3_readClause_15 : decode cX3_readClause 15 = .ok (.aload_n 0, 1) := by decide +kernel
theorem dX3_readClause_16 : decode cX3_readClause 16 = .ok (.iload_n 2, 1) := by decide +kernel
theorem dX3_readClause_17 : decode cX3_readClause 17 = .ok (.invokevirtual 49, 3) := by decide +kernel
theorem dX3_readClause_20 : decode cX3_readClause 20 = .ok (.ifCond .eq 10, 3) := by decide +kernel
theorem dX3_readClause_23 : decode cX3_readClause 23 = .ok (.aload_n 0, 1) := by decide +kernel
theorem dX3_readClause_24 : decode cX3_readClause 24 = .ok (.iconst 1, 1) := by decide +kernel
theorem dX3_readClause_25 : decode cX3_readClause 25 = .ok (.iload_n 1, 1) := by decide +kernel
theorem dX3_readClause_26 : decode cX3_readClause 26 = .ok (.invokevirtual 53, 3) := by decide +kernel
theorem dX3_readClause_29 : decode cX3_readClause 29 = .ok (.ireturn, 1) := by decide +kernel
theorem dX3_readClause_30 : decode cX3_readClause 30 = .ok (.aload_n 0, 1) := by decide +kernel
theorem dX3_readClause_31 : decode cX3_readClause 31 = .ok (.dup, 1) := by decide +kernel
theorem dX3_readClause_32 : decode cX3_readClause 32 = .ok (.getfield 57, 3) := by decide +kernel
theorem dX3_readClause_35 : decode cX3_readClause 35 = .ok (.iconst 1, 1) := by decide +kernel
theorem dX3_readClause_36 : decode cX3_readClause 36 = .ok (.iload_n 2, 1) := by decide +kernel
theorem dX3_readClause_37 : decode cX3_readClause 37 = .ok (.ishl, 1) := by decide +kernel
theorem dX3_readClause_38 : decode cX3_readClause 38 = .ok (.ior, 1) := by decide +kernel
theorem dX3_readClause_39 : decode cX3_readClause 39 = .ok (.putfield 57, 3) := by decide +kernel
theorem dX3_readClause_42 : decode cX3_readClause 42 = .ok (.aload_n 0, 1) := by decide +kernel
theorem dX3_readClause_43 : decode cX3_readClause 43 = .ok (.iload_n 2, 1) := by decide +kernel
theorem dX3_readClause_44 : decode cX3_readClause 44 = .ok (.invokevirtual 70, 3) := by decide +kernel
theorem dX3_readClause_47 : decode cX3_readClause 47 = .ok (.ifCond .eq 16, 3) := by decide +kernel
theorem dX3_readClause_50 : decode cX3_readClause 50 = .ok (.aload_n 0, 1) := by decide +kernel
theorem dX3_readClause_51 : decode cX3_readClause 51 = .ok (.bipush 59, 2) := by decide +kernel
theorem dX3_readClause_53 : decode cX3_readClause 53 = .ok (.invokevirtual 73, 3) := by decide +kernel
theorem dX3_readClause_56 : decode cX3_readClause 56 = .ok (.ifCond .eq 7, 3) := by decide +kernel
theorem dX3_readClause_59 : decode cX3_readClause 59 = .ok (.iconst 1, 1) := by decide +kernel
theorem dX3_readClause_60 : decode cX3_readClause 60 = .ok (.goto 4, 3) := by decide +kernel
theorem dX3_readClause_63 : decode cX3_readClause 63 = .ok (.iconst 0, 1) := by decide +kernel
theorem dX3_readClause_64 : decode cX3_readClause 64 = .ok (.ireturn, 1) := by decide +kernel
theorem dX3_isRead_0 : decode cX3_isRead 0 = .ok (.aload_n 0, 1) := by decide +kernel
theorem dX3_isRead_1 : decode cX3_isRead 1 = .ok (.getfield 57, 3) := by decide +kernel
theorem dX3_isRead_4 : decode cX3_isRead 4 = .ok (.iconst 1, 1) := by decide +kernel
theorem dX3_isRead_5 : decode cX3_isRead 5 = .ok (.iload_n 1, 1) := by decide +kernel
theorem dX3_isRead_6 : decode cX3_isRead 6 = .ok (.ishl, 1) := by decide +kernel
theorem dX3_isRead_7 : decode cX3_isRead 7 = .ok (.iand, 1) := by decide +kernel
theorem dX3_isRead_8 : decode cX3_isRead 8 = .ok (.ifCond .eq 7, 3) := by decide +kernel
theorem dX3_isRead_11 : decode cX3_isRead 11 = .ok (.iconst 1, 1) := by decide +kernel
theorem dX3_isRead_12 : decode cX3_isRead 12 = .ok (.goto 4, 3) := by decide +kernel
theorem dX3_isRead_15 : decode cX3_isRead 15 = .ok (.iconst 0, 1) := by decide +kernel
theorem dX3_isRead_16 : decode cX3_isRead 16 = .ok (.ireturn, 1) := by decide +kernel
theorem dX3_readClauseWord_0 : decode cX3_readClauseWord 0 = .ok (.aload_n 0, 1) := by decide +kernel
theorem dX3_readClauseWord_1 : decode cX3_readClauseWord 1 = .ok (.getfield 39, 3) := by decide +kernel
theorem dX3_readClauseWord_4 : decode cX3_readClauseWord 4 = .ok (.istore_n 1, 1) := by decide +kernel
theorem dX3_readClauseWord_5 : decode cX3_readClauseWord 5 = .ok (.aload_n 0, 1) := by decide +kernel
theorem dX3_readClauseWord_6 : decode cX3_readClauseWord 6 = .ok (.invokevirtual 77, 3) := by decide +kernel
theorem dX3_readClauseWord_9 : decode cX3_readClauseWord 9 = .ok (.aload_n 0, 1) := by decide +kernel
theorem dX3_readClauseWord_10 : decode cX3_readClauseWord 10 = .ok (.iload_n 1, 1) := by decide +kernel
theorem dX3_readClauseWord_11 : decode cX3_readClauseWord 11 = .ok (.ldc 80, 2) := by decide +kernel
theorem dX3_readClauseWord_13 : decode cX3_readClauseWord 13 = .ok (.invokevirtual 82, 3) := by decide +kernel
theorem dX3_readClauseWord_16 : decode cX3_readClauseWord 16 = .ok (.ifCond .eq 5, 3) := by decide +kernel
theorem dX3_readClauseWord_19 : decode cX3_readClauseWord 19 = .ok (.iconst 0, 1) := by decide +kernel
theorem dX3_readClauseWord_20 : decode cX3_readClauseWord 20 = .ok (.ireturn, 1) := by decide +kernel
theorem dX3_readClauseWord_21 : decode cX3_readClauseWord 21 = .ok (.aload_n 0, 1) := by decide +kernel
theorem dX3_readClauseWord_22 : decode cX3_readClauseWord 22 = .ok (.iload_n 1, 1) := by decide +kernel
theorem dX3_readClauseWord_23 : decode cX3_readClauseWord 23 = .ok (.ldc 86, 2) := by decide +kernel
theorem dX3_readClauseWord_25 : decode cX3_readClauseWord 25 = .ok (.invokevirtual 82, 3) := by decide +kernel
theorem dX3_readClauseWord_28 : decode cX3_readClauseWord 28 = .ok (.ifCond .eq 5, 3) := by decide +kernel
theorem dX3_readClauseWord_31 : decode cX3_readClauseWord 31 = .ok (.iconst 1, 1) := by decide +kernel
theorem dX3_readClauseWord_32 : decode cX3_readClauseWord 32 = .ok (.ireturn, 1) := by decide +kernel
theorem dX3_readClauseWord_33 : decode cX3_readClauseWord 33 = .ok (.aload_n 0, 1) := by decide +kernel
theorem dX3_readClauseWord_34 : decode cX3_readClauseWord 34 = .ok (.iload_n 1, 1) := by decide +kernel
theorem dX3_readClauseWord_35 : decode cX3_readClauseWord 35 = .ok (.ldc 88, 2) := by decide +kernel
theorem dX3_readClauseWord_37 : decode cX3_readClauseWord 37 = .ok (.invokevirtual 82, 3) := by decide +kernel
theorem dX3_readClauseWord_40 : decode cX3_readClauseWord 40 = .ok (.ifCond .eq 5, 3) := by decide +kernel
theorem dX3_readClauseWord_43 : decode cX3_readClauseWord 43 = .ok (.iconst 2, 1) := by decide +kernel
theorem dX3_readClauseWord_44 : decode cX3_readClauseWord 44 = .ok (.ireturn, 1) := by decide +kernel
theorem dX3_readClauseWord_45 : decode cX3_readClauseWord 45 = .ok (.aload_n 0, 1) := by decide +kernel
theorem dX3_readClauseWord_46 : decode cX3_readClauseWord 46 = .ok (.iload_n 1, 1) := by decide +kernel
theorem dX3_readClauseWord_47 : decode cX3_readClauseWord 47 = .ok (.ldc 90, 2) := by decide +kernel
theorem dX3_readClauseWord_49 : decode cX3_readClauseWord 49 = .ok (.invokevirtual 82, 3) := by decide +kernel
theorem dX3_readClauseWord_52 : decode cX3_readClauseWord 52 = .ok (.ifCond .eq 5, 3) := by decide +kernel
theorem dX3_readClauseWord_55 : decode cX3_readClauseWord 55 = .ok (.iconst 3, 1) := by decide +kernel
theorem dX3_readClauseWord_56 : decode cX3_readClauseWord 56 = .ok (.ireturn, 1) := by decide +kernel
theorem dX3_readClauseWord_57 : decode cX3_readClauseWord 57 = .ok (.aload_n 0, 1) := by decide +kernel
theorem dX3_readClauseWord_58 : decode cX3_readClauseWord 58 = .ok (.iload_n 1, 1) := by decide +kernel
theorem dX3_readClauseWord_59 : decode cX3_readClauseWord 59 = .ok (.ldc 92, 2) := by decide +kernel
theorem dX3_readClauseWord_61 : decode cX3_readClauseWord 61 = .ok (.invokevirtual 82, 3) := by decide +kernel
theorem dX3_readClauseWord_64 : decode cX3_readClauseWord 64 = .ok (.ifCond .eq 7, 3) := by decide +kernel
theorem dX3_readClauseWord_67 : decode cX3_readClauseWord 67 = .ok (.iconst 4, 1) := by decide +kernel
theorem dX3_readClauseWord_68 : decode cX3_readClauseWord 68 = .ok (.goto 4, 3) := by decide +kernel
theorem dX3_readClauseWord_71 : decode cX3_readClauseWord 71 = .ok (.iconst (-1), 1) := by decide +kernel
theorem dX3_readClauseWord_72 : decode cX3_readClauseWord 72 = .ok (.ireturn, 1) := by decide +kernel
theorem dX3_readRest_0 : decode cX3_readRest 0 = .ok (.iload_n 1, 1) := by decide +kernel
theorem dX3_readRest_1 : decode cX3_readRest 1 = .ok (.tableswitch 51 0 3 #[31, 36, 41, 46], 31) := by decide +kernel
theorem dX3_readRest_32 : decode cX3_readRest 32 = .ok (.aload_n 0, 1) := by decide +kernel
theorem dX3_readRest_33 : decode cX3_readRest 33 = .ok (.invokevirtual 94, 3) := by decide +kernel
theorem dX3_readRest_36 : decode cX3_readRest 36 = .ok (.ireturn, 1) := by decide +kernel
theorem dX3_readRest_37 : decode cX3_readRest 37 = .ok (.aload_n 0, 1) := by decide +kernel
theorem dX3_readRest_38 : decode cX3_readRest 38 = .ok (.invokevirtual 97, 3) := by decide +kernel
theorem dX3_readRest_41 : decode cX3_readRest 41 = .ok (.ireturn, 1) := by decide +kernel
theorem dX3_readRest_42 : decode cX3_readRest 42 = .ok (.aload_n 0, 1) := by decide +kernel
theorem dX3_readRest_43 : decode cX3_readRest 43 = .ok (.invokevirtual 100, 3) := by decide +kernel
theorem dX3_readRest_46 : decode cX3_readRest 46 = .ok (.ireturn, 1) := by decide +kernel
theorem dX3_readRest_47 : decode cX3_readRest 47 = .ok (.aload_n 0, 1) := by decide +kernel
theorem dX3_readRest_48 : decode cX3_readRest 48 = .ok (.invokevirtual 103, 3) := by decide +kernel
theorem dX3_readRest_51 : decode cX3_readRest 51 = .ok (.ireturn, 1) := by decide +kernel
theorem dX3_readRest_52 : decode cX3_readRest 52 = .ok (.aload_n 0, 1) := by decide +kernel
theorem dX3_readRest_53 : decode cX3_readRest 53 = .ok (.invokevirtual 106, 3) := by decide +kernel
theorem dX3_readRest_56 : decode cX3_readRest 56 = .ok (.ireturn, 1) := by decide +kernel
theorem dX3_readHours_0 : decode cX3_readHours 0 = .ok (.aload_n 0, 1) := by decide +kernel
theorem dX3_readHours_1 : decode cX3_readHours 1 = .ok (.iconst 1, 1) := by decide +kernel
theorem dX3_readHours_2 : decode cX3_readHours 2 = .ok (.bipush 40, 2) := by decide +kernel
theorem dX3_readHours_4 : decode cX3_readHours 4 = .ok (.invokevirtual 109, 3) := by decide +kernel
theorem dX3_readHours_7 : decode cX3_readHours 7 = .ok (.ifCond .ne 5, 3) := by decide +kernel
theorem dX3_readHours_10 : decode cX3_readHours 10 = .ok (.iconst 0, 1) := by decide +kernel
theorem dX3_readHours_11 : decode cX3_readHours 11 = .ok (.ireturn, 1) := by decide +kernel
theorem dX3_readHours_12 : decode cX3_readHours 12 = .ok (.aload_n 0, 1) := by decide +kernel
theorem dX3_readHours_13 : decode cX3_readHours 13 = .ok (.getfield 12, 3) := by decide +kernel
theorem dX3_readHours_16 : decode cX3_readHours 16 = .ok (.aload_n 0, 1) := by decide +kernel
theorem dX3_readHours_17 : decode cX3_readHours 17 = .ok (.getfield 112, 3) := by decide +kernel
theorem dX3_readHours_20 : decode cX3_readHours 20 = .ok (.putfield 115, 3) := by decide +kernel
theorem dX3_readHours_23 : decode cX3_readHours 23 = .ok (.aload_n 0, 1) := by decide +kernel
theorem dX3_readHours_24 : decode cX3_readHours 24 = .ok (.bipush 45, 2) := by decide +kernel
theorem dX3_readHours_26 : decode cX3_readHours 26 = .ok (.invokevirtual 73, 3) := by decide +kernel
theorem dX3_readHours_29 : decode cX3_readHours 29 = .ok (.ifCond .eq 19, 3) := by decide +kernel
theorem dX3_readHours_32 : decode cX3_readHours 32 = .ok (.aload_n 0, 1) := by decide +kernel
theorem dX3_readHours_33 : decode cX3_readHours 33 = .ok (.aload_n 0, 1) := by decide +kernel
theorem dX3_readHours_34 : decode cX3_readHours 34 = .ok (.getfield 12, 3) := by decide +kernel
theorem dX3_readHours_37 : decode cX3_readHours 37 = .ok (.getfield 115, 3) := by decide +kernel
theorem dX3_readHours_40 : decode cX3_readHours 40 = .ok (.bipush 40, 2) := by decide +kernel
theorem dX3_readHours_42 : decode cX3_readHours 42 = .ok (.invokevirtual 109, 3) := by decide +kernel
theorem dX3_readHours_45 : decode cX3_readHours 45 = .ok (.ifCond .ne 5, 3) := by decide +kernel
theorem dX3_readHours_48 : decode cX3_readHours 48 = .ok (.iconst 0, 1) := by decide +kernel
theorem dX3_readHours_49 : decode cX3_readHours 49 = .ok (.ireturn, 1) := by decide +kernel
theorem dX3_readHours_50 : decode cX3_readHours 50 = .ok (.aload_n 0, 1) := by decide +kernel
theorem dX3_readHours_51 : decode cX3_readHours 51 = .ok (.getfield 12, 3) := by decide +kernel
theorem dX3_readHours_54 : decode cX3_readHours 54 = .ok (.aload_n 0, 1) := by decide +kernel
theorem dX3_readHours_55 : decode cX3_readHours 55 = .ok (.getfield 112, 3) := by decide +kernel
theorem dX3_readHours_58 : decode cX3_readHours 58 = .ok (.putfield 118, 3) := by decide +kernel
theorem dX3_readHours_61 : decode cX3_readHours 61 = .ok (.iconst 1, 1) := by decide +kernel
theorem dX3_readHours_62 : decode cX3_readHours 62 = .ok (.ireturn, 1) := by decide +kernel
theorem dX3_readThing_0 : decode cX3_readThing 0 = .ok (.aload_n 0, 1) := by decide +kernel
theorem dX3_readThing_1 : decode cX3_readThing 1 = .ok (.invokevirtual 33, 3) := by decide +kernel
theorem dX3_readThing_4 : decode cX3_readThing 4 = .ok (.aload_n 0, 1) := by decide +kernel
theorem dX3_readThing_5 : decode cX3_readThing 5 = .ok (.getfield 39, 3) := by decide +kernel
theorem dX3_readThing_8 : decode cX3_readThing 8 = .ok (.istore_n 1, 1) := by decide +kernel
theorem dX3_readThing_9 : decode cX3_readThing 9 = .ok (.aload_n 0, 1) := by decide +kernel
theorem dX3_readThing_10 : decode cX3_readThing 10 = .ok (.invokevirtual 77, 3) := by decide +kernel
theorem dX3_readThing_13 : decode cX3_readThing 13 = .ok (.aload_n 0, 1) := by decide +kernel
theorem dX3_readThing_14 : decode cX3_readThing 14 = .ok (.iload_n 1, 1) := by decide +kernel
theorem dX3_readThing_15 : decode cX3_readThing 15 = .ok (.ldc 121, 2) := by decide +kernel
theorem dX3_readThing_17 : decode cX3_readThing 17 = .ok (.invokevirtual 82, 3) := by decide +kernel
theorem dX3_readThing_20 : decode cX3_readThing 20 = .ok (.ifCond .eq 14, 3) := by decide +kernel
theorem dX3_readThing_23 : decode cX3_readThing 23 = .ok (.aload_n 0, 1) := by decide +kernel
theorem dX3_readThing_24 : decode cX3_readThing 24 = .ok (.getfield 12, 3) := by decide +kernel
theorem dX3_readThing_27 : decode cX3_readThing 27 = .ok (.iconst 1, 1) := by decide +kernel
theorem dX3_readThing_28 : decode cX3_readThing 28 = .ok (.putfield 123, 3) := by decide +kernel
theorem dX3_readThing_31 : decode cX3_readThing 31 = .ok (.goto 52, 3) := by decide +kernel
theorem dX3_readThing_34 : decode cX3_readThing 34 = .ok (.aload_n 0, 1) := by decide +kernel
theorem dX3_readThing_35 : decode cX3_readThing 35 = .ok (.iload_n 1, 1) := by decide +kernel
theorem dX3_readThing_36 : decode cX3_readThing 36 = .ok (.ldc 126, 2) := by decide +kernel
theorem dX3_readThing_38 : decode cX3_readThing 38 = .ok (.invokevirtual 82, 3) := by decide +kernel
theorem dX3_readThing_41 : decode cX3_readThing 41 = .ok (.ifCond .eq 14, 3) := by decide +kernel
theorem dX3_readThing_44 : decode cX3_readThing 44 = .ok (.aload_n 0, 1) := by decide +kernel
theorem dX3_readThing_45 : decode cX3_readThing 45 = .ok (.getfield 12, 3) := by decide +kernel
theorem dX3_readThing_48 : decode cX3_readThing 48 = .ok (.iconst 2, 1) := by decide +kernel
theorem dX3_readThing_49 : decode cX3_readThing 49 = .ok (.putfield 123, 3) := by decide +kernel
theorem dX3_readThing_52 : decode cX3_readThing 52 = .ok (.goto 31, 3) := by decide +kernel
theorem dX3_readThing_55 : decode cX3_readThing 55 = .ok (.aload_n 0, 1) := by decide +kernel
theorem dX3_readThing_56 : decode cX3_readThing 56 = .ok (.iload_n 1, 1) := by decide +kernel
theorem dX3_readThing_57 : decode cX3_readThing 57 = .ok (.ldc 128, 2) := by decide +kernel
theorem dX3_readThing_59 : decode cX3_readThing 59 = .ok (.invokevirtual 82, 3) := by decide +kernel
theorem dX3_readThing_62 : decode cX3_readThing 62 = .ok (.ifCond .eq 14, 3) := by decide +kernel
theorem dX3_readThing_65 : decode cX3_readThing 65 = .ok (.aload_n 0, 1) := by decide +kernel
theorem dX3_readThing_66 : decode cX3_readThing 66 = .ok (.getfield 12, 3) := by decide +kernel
theorem dX3_readThing_69 : decode cX3_readThing 69 = .ok (.iconst 3, 1) := by decide +kernel
theorem dX3_readThing_70 : decode cX3_readThing 70 = .ok (.putfield 123, 3) := by decide +kernel
theorem dX3_readThing_73 : decode cX3_readThing 73 = .ok (.goto 10, 3) := by decide +kernel
theorem dX3_readThing_76 : decode cX3_readThing 76 = .ok (.aload_n 0, 1) := by decide +kernel
theorem dX3_readThing_77 : decode cX3_readThing 77 = .ok (.iconst 1, 1) := by decide +kernel
theorem dX3_readThing_78 : decode cX3_readThing 78 = .ok (.iload_n 1, 1) := by decide +kernel
theorem dX3_readThing_79 : decode cX3_readThing 79 = .ok (.invokevirtual 53, 3) := by decide +kernel
theorem dX3_readThing_82 : decode cX3_readThing 82 = .ok (.ireturn, 1) := by decide +kernel
theorem dX3_readThing_83 : decode cX3_readThing 83 = .ok (.aload_n 0, 1) := by decide +kernel
theorem dX3_readThing_84 : decode cX3_readThing 84 = .ok (.getfield 12, 3) := by decide +kernel
theorem dX3_readThing_87 : decode cX3_readThing 87 = .ok (.iconst 1, 1) := by decide +kernel
theorem dX3_readThing_88 : decode cX3_readThing 88 = .ok (.aload_n 0, 1) := by decide +kernel
theorem dX3_readThing_89 : decode cX3_readThing 89 = .ok (.getfield 12, 3) := by decide +kernel
theorem dX3_readThing_92 : decode cX3_readThing 92 = .ok (.getfield 123, 3) := by decide +kernel
theorem dX3_readThing_95 : decode cX3_readThing 95 = .ok (.ishl, 1) := by decide +kernel
theorem dX3_readThing_96 : decode cX3_readThing 96 = .ok (.putfield 130, 3) := by decide +kernel
theorem dX3_readThing_99 : decode cX3_readThing 99 = .ok (.iconst 1, 1) := by decide +kernel
theorem dX3_readThing_100 : decode cX3_readThing 100 = .ok (.ireturn, 1) := by decide +kernel
theorem dX3_readHands_0 : decode cX3_readHands 0 = .ok (.aload_n 0, 1) := by decide +kernel
theorem dX3_readHands_1 : decode cX3_readHands 1 = .ok (.iconst 0, 1) := by decide +kernel
theorem dX3_readHands_2 : decode cX3_readHands 2 = .ok (.bipush 30, 2) := by decide +kernel
theorem dX3_readHands_4 : decode cX3_readHands 4 = .ok (.invokevirtual 109, 3) := by decide +kernel
theorem dX3_readHands_7 : decode cX3_readHands 7 = .ok (.ifCond .ne 5, 3) := by decide +kernel
theorem dX3_readHands_10 : decode cX3_readHands 10 = .ok (.iconst 0, 1) := by decide +kernel
theorem dX3_readHands_11 : decode cX3_readHands 11 = .ok (.ireturn, 1) := by decide +kernel
theorem dX3_readHands_12 : decode cX3_readHands 12 = .ok (.aload_n 0, 1) := by decide +kernel
theorem dX3_readHands_13 : decode cX3_readHands 13 = .ok (.getfield 12, 3) := by decide +kernel
theorem dX3_readHands_16 : decode cX3_readHands 16 = .ok (.aload_n 0, 1) := by decide +kernel
theorem dX3_readHands_17 : decode cX3_readHands 17 = .ok (.getfield 112, 3) := by decide +kernel
theorem dX3_readHands_20 : decode cX3_readHands 20 = .ok (.putfield 133, 3) := by decide +kernel
theorem dX3_readHands_23 : decode cX3_readHands 23 = .ok (.iconst 1, 1) := by decide +kernel
theorem dX3_readHands_24 : decode cX3_readHands 24 = .ok (.ireturn, 1) := by decide +kernel
theorem dX3_readBack_0 : decode cX3_readBack 0 = .ok (.aload_n 0, 1) := by decide +kernel
theorem dX3_readBack_1 : decode cX3_readBack 1 = .ok (.iconst 0, 1) := by decide +kernel
theorem dX3_readBack_2 : decode cX3_readBack 2 = .ok (.bipush 40, 2) := by decide +kernel
theorem dX3_readBack_4 : decode cX3_readBack 4 = .ok (.invokevirtual 109, 3) := by decide +kernel
theorem dX3_readBack_7 : decode cX3_readBack 7 = .ok (.ifCond .ne 5, 3) := by decide +kernel
theorem dX3_readBack_10 : decode cX3_readBack 10 = .ok (.iconst 0, 1) := by decide +kernel
theorem dX3_readBack_11 : decode cX3_readBack 11 = .ok (.ireturn, 1) := by decide +kernel
theorem dX3_readBack_12 : decode cX3_readBack 12 = .ok (.aload_n 0, 1) := by decide +kernel
theorem dX3_readBack_13 : decode cX3_readBack 13 = .ok (.getfield 12, 3) := by decide +kernel
theorem dX3_readBack_16 : decode cX3_readBack 16 = .ok (.aload_n 0, 1) := by decide +kernel
theorem dX3_readBack_17 : decode cX3_readBack 17 = .ok (.getfield 112, 3) := by decide +kernel
theorem dX3_readBack_20 : decode cX3_readBack 20 = .ok (.putfield 135, 3) := by decide +kernel
theorem dX3_readBack_23 : decode cX3_readBack 23 = .ok (.iconst 1, 1) := by decide +kernel
theorem dX3_readBack_24 : decode cX3_readBack 24 = .ok (.ireturn, 1) := by decide +kernel
theorem dX3_readAfter_0 : decode cX3_readAfter 0 = .ok (.iconst 0, 1) := by decide +kernel
theorem dX3_readAfter_1 : decode cX3_readAfter 1 = .ok (.istore_n 1, 1) := by decide +kernel
theorem dX3_readAfter_2 : decode cX3_readAfter 2 = .ok (.iload_n 1, 1) := by decide +kernel
theorem dX3_readAfter_3 : decode cX3_readAfter 3 = .ok (.aload_n 0, 1) := by decide +kernel
theorem dX3_readAfter_4 : decode cX3_readAfter 4 = .ok (.getfield 36, 3) := by decide +kernel
theorem dX3_readAfter_7 : decode cX3_readAfter 7 = .ok (.if_icmp .ge 54, 3) := by decide +kernel
theorem dX3_readAfter_10 : decode cX3_readAfter 10 = .ok (.iload_n 1, 1) := by decide +kernel
theorem dX3_readAfter_11 : decode cX3_readAfter 11 = .ok (.ifCond .eq 10, 3) := by decide +kernel
theorem dX3_readAfter_14 : decode cX3_readAfter 14 = .ok (.aload_n 0, 1) := by decide +kernel
theorem dX3_readAfter_15 : decode cX3_readAfter 15 = .ok (.invokevirtual 137, 3) := by decide +kernel
theorem dX3_readAfter_18 : decode cX3_readAfter 18 = .ok (.ifCond .eq 43, 3) := by decide +kernel
theorem dX3_readAfter_21 : decode cX3_readAfter 21 = .ok (.aload_n 0, 1) := by decide +kernel
theorem dX3_readAfter_22 : decode cX3_readAfter 22 = .ok (.iconst 0, 1) := by decide +kernel
theorem dX3_readAfter_23 : decode cX3_readAfter 23 = .ok (.aload_n 0, 1) := by decide +kernel
theorem dX3_readAfter_24 : decode cX3_readAfter 24 = .ok (.getfield 60, 3) := by decide +kernel
theorem dX3_readAfter_27 : decode cX3_readAfter 27 = .ok (.iconst 1, 1) := by decide +kernel
theorem dX3_readAfter_28 : decode cX3_readAfter 28 = .ok (.isub, 1) := by decide +kernel
theorem dX3_readAfter_29 : decode cX3_readAfter 29 = .ok (.invokevirtual 109, 3) := by decide +kernel
theorem dX3_readAfter_32 : decode cX3_readAfter 32 = .ok (.ifCond .ne 5, 3) := by decide +kernel
theorem dX3_readAfter_35 : decode cX3_readAfter 35 = .ok (.iconst 0, 1) := by decide +kernel
theorem dX3_readAfter_36 : decode cX3_readAfter 36 = .ok (.ireturn, 1) := by decide +kernel
theorem dX3_readAfter_37 : decode cX3_readAfter 37 = .ok (.aload_n 0, 1) := by decide +kernel
theorem dX3_readAfter_38 : decode cX3_readAfter 38 = .ok (.getfield 12, 3) := by decide +kernel
theorem dX3_readAfter_41 : decode cX3_readAfter 41 = .ok (.dup, 1) := by decide +kernel
theorem dX3_readAfter_42 : decode cX3_readAfter 42 = .ok (.getfield 140, 3) := by decide +kernel
theorem dX3_readAfter_45 : decode cX3_readAfter 45 = .ok (.iconst 1, 1) := by decide +kernel
theorem dX3_readAfter_46 : decode cX3_readAfter 46 = .ok (.aload_n 0, 1) := by decide +kernel
theorem dX3_readAfter_47 : decode cX3_readAfter 47 = .ok (.getfield 112, 3) := by decide +kernel
theorem dX3_readAfter_50 : decode cX3_readAfter 50 = .ok (.ishl, 1) := by decide +kernel
theorem dX3_readAfter_51 : decode cX3_readAfter 51 = .ok (.ior, 1) := by decide +kernel
theorem dX3_readAfter_52 : decode cX3_readAfter 52 = .ok (.putfield 140, 3) := by decide +kernel
theorem dX3_readAfter_55 : decode cX3_readAfter 55 = .ok (.iinc 1 1, 3) := by decide +kernel
theorem dX3_readAfter_58 : decode cX3_readAfter 58 = .ok (.goto (-56), 3) := by decide +kernel
theorem dX3_readAfter_61 : decode cX3_readAfter 61 = .ok (.iconst 1, 1) := by decide +kernel
theorem dX3_readAfter_62 : decode cX3_readAfter 62 = .ok (.ireturn, 1) := by decide +kernel
theorem dX3_isNumberNext_0 : decode cX3_isNumberNext 0 = .ok (.aload_n 0, 1) := by decide +kernel
theorem dX3_isNumberNext_1 : decode cX3_isNumberNext 1 = .ok (.invokevirtual 33, 3) := by decide +kernel
theorem dX3_isNumberNext_4 : decode cX3_isNumberNext 4 = .ok (.aload_n 0, 1) := by decide +kernel
theorem dX3_isNumberNext_5 : decode cX3_isNumberNext 5 = .ok (.invokevirtual 142, 3) := by decide +kernel
theorem dX3_isNumberNext_8 : decode cX3_isNumberNext 8 = .ok (.ireturn, 1) := by decide +kernel
theorem dX3_readNumber_0 : decode cX3_readNumber 0 = .ok (.aload_n 0, 1) := by decide +kernel
theorem dX3_readNumber_1 : decode cX3_readNumber 1 = .ok (.invokevirtual 33, 3) := by decide +kernel
theorem dX3_readNumber_4 : decode cX3_readNumber 4 = .ok (.aload_n 0, 1) := by decide +kernel
theorem dX3_readNumber_5 : decode cX3_readNumber 5 = .ok (.getfield 39, 3) := by decide +kernel
theorem dX3_readNumber_8 : decode cX3_readNumber 8 = .ok (.istore_n 3, 1) := by decide +kernel
theorem dX3_readNumber_9 : decode cX3_readNumber 9 = .ok (.aload_n 0, 1) := by decide +kernel
theorem dX3_readNumber_10 : decode cX3_readNumber 10 = .ok (.iconst 0, 1) := by decide +kernel
theorem dX3_readNumber_11 : decode cX3_readNumber 11 = .ok (.putfield 112, 3) := by decide +kernel
theorem dX3_readNumber_14 : decode cX3_readNumber 14 = .ok (.aload_n 0, 1) := by decide +kernel
theorem dX3_readNumber_15 : decode cX3_readNumber 15 = .ok (.getfield 39, 3) := by decide +kernel
theorem dX3_readNumber_18 : decode cX3_readNumber 18 = .ok (.aload_n 0, 1) := by decide +kernel
theorem dX3_readNumber_19 : decode cX3_readNumber 19 = .ok (.getfield 36, 3) := by decide +kernel
theorem dX3_readNumber_22 : decode cX3_readNumber 22 = .ok (.if_icmp .ge 53, 3) := by decide +kernel
theorem dX3_readNumber_25 : decode cX3_readNumber 25 = .ok (.aload_n 0, 1) := by decide +kernel
theorem dX3_readNumber_26 : decode cX3_readNumber 26 = .ok (.invokevirtual 142, 3) := by decide +kernel
theorem dX3_readNumber_29 : decode cX3_readNumber 29 = .ok (.ifCond .eq 46, 3) := by decide +kernel
theorem dX3_readNumber_32 : decode cX3_readNumber 32 = .ok (.aload_n 0, 1) := by decide +kernel
theorem dX3_readNumber_33 : decode cX3_readNumber 33 = .ok (.sipush 1000, 3) := by decide +kernel
theorem dX3_readNumber_36 : decode cX3_readNumber 36 = .ok (.aload_n 0, 1) := by decide +kernel
theorem dX3_readNumber_37 : decode cX3_readNumber 37 = .ok (.getfield 112, 3) := by decide +kernel
theorem dX3_readNumber_40 : decode cX3_readNumber 40 = .ok (.bipush 10, 2) := by decide +kernel
theorem dX3_readNumber_42 : decode cX3_readNumber 42 = .ok (.imul, 1) := by decide +kernel
theorem dX3_readNumber_43 : decode cX3_readNumber 43 = .ok (.aload_n 0, 1) := by decide +kernel
theorem dX3_readNumber_44 : decode cX3_readNumber 44 = .ok (.getfield 25, 3) := by decide +kernel
theorem dX3_readNumber_47 : decode cX3_readNumber 47 = .ok (.aload_n 0, 1) := by decide +kernel
theorem dX3_readNumber_48 : decode cX3_readNumber 48 = .ok (.getfield 39, 3) := by decide +kernel
theorem dX3_readNumber_51 : decode cX3_readNumber 51 = .ok (.iaload, 1) := by decide +kernel
theorem dX3_readNumber_52 : decode cX3_readNumber 52 = .ok (.iadd, 1) := by decide +kernel
theorem dX3_readNumber_53 : decode cX3_readNumber 53 = .ok (.bipush 48, 2) := by decide +kernel
theorem dX3_readNumber_55 : decode cX3_readNumber 55 = .ok (.isub, 1) := by decide +kernel
theorem dX3_readNumber_56 : decode cX3_readNumber 56 = .ok (.invokestatic 145, 3) := by decide +kernel
theorem dX3_readNumber_59 : decode cX3_readNumber 59 = .ok (.putfield 112, 3) := by decide +kernel
theorem dX3_readNumber_62 : decode cX3_readNumber 62 = .ok (.aload_n 0, 1) := by decide +kernel
theorem dX3_readNumber_63 : decode cX3_readNumber 63 = .ok (.dup, 1) := by decide +kernel
theorem dX3_readNumber_64 : decode cX3_readNumber 64 = .ok (.getfield 39, 3) := by decide +kernel
theorem dX3_readNumber_67 : decode cX3_readNumber 67 = .ok (.iconst 1, 1) := by decide +kernel
theorem dX3_readNumber_68 : decode cX3_readNumber 68 = .ok (.iadd, 1) := by decide +kernel
theorem dX3_readNumber_69 : decode cX3_readNumber 69 = .ok (.putfield 39, 3) := by decide +kernel
theorem dX3_readNumber_72 : decode cX3_readNumber 72 = .ok (.goto (-58), 3) := by decide +kernel
theorem dX3_readNumber_75 : decode cX3_readNumber 75 = .ok (.aload_n 0, 1) := by decide +kernel
theorem dX3_readNumber_76 : decode cX3_readNumber 76 = .ok (.getfield 39, 3) := by decide +kernel
theorem dX3_readNumber_79 : decode cX3_readNumber 79 = .ok (.iload_n 3, 1) := by decide +kernel
theorem dX3_readNumber_80 : decode cX3_readNumber 80 = .ok (.if_icmp .ne 10, 3) := by decide +kernel
theorem dX3_readNumber_83 : decode cX3_readNumber 83 = .ok (.aload_n 0, 1) := by decide +kernel
theorem dX3_readNumber_84 : decode cX3_readNumber 84 = .ok (.iconst 1, 1) := by decide +kernel
theorem dX3_readNumber_85 : decode cX3_readNumber 85 = .ok (.iload_n 3, 1) := by decide +kernel
theorem dX3_readNumber_86 : decode cX3_readNumber 86 = .ok (.invokevirtual 53, 3) := by decide +kernel
theorem dX3_readNumber_89 : decode cX3_readNumber 89 = .ok (.ireturn, 1) := by decide +kernel
theorem dX3_readNumber_90 : decode cX3_readNumber 90 = .ok (.aload_n 0, 1) := by decide +kernel
theorem dX3_readNumber_91 : decode cX3_readNumber 91 = .ok (.getfield 112, 3) := by decide +kernel
theorem dX3_readNumber_94 : decode cX3_readNumber 94 = .ok (.iload_n 1, 1) := by decide +kernel
theorem dX3_readNumber_95 : decode cX3_readNumber 95 = .ok (.if_icmp .lt 11, 3) := by decide +kernel
theorem dX3_readNumber_98 : decode cX3_readNumber 98 = .ok (.aload_n 0, 1) := by decide +kernel
theorem dX3_readNumber_99 : decode cX3_readNumber 99 = .ok (.getfield 112, 3) := by decide +kernel
theorem dX3_readNumber_102 : decode cX3_readNumber 102 = .ok (.iload_n 2, 1) := by decide +kernel
theorem dX3_readNumber_103 : decode cX3_readNumber 103 = .ok (.if_icmp .le 12, 3) := by decide +kernel
theorem dX3_readNumber_106 : decode cX3_readNumber 106 = .ok (.aload_n 0, 1) := by decide +kernel
theorem dX3_readNumber_107 : decode cX3_readNumber 107 = .ok (.iconst 2, 1) := by decide +kernel
theorem dX3_readNumber_108 : decode cX3_readNumber 108 = .ok (.iload_n 3, 1) := by decide +kernel
theorem dX3_readNumber_109 : decode cX3_readNumber 109 = .ok (.invokevirtual 53, 3) := by decide +kernel
theorem dX3_readNumber_112 : decode cX3_readNumber 112 = .ok (.ifCond .eq 7, 3) := by decide +kernel
theorem dX3_readNumber_115 : decode cX3_readNumber 115 = .ok (.iconst 1, 1) := by decide +kernel
theorem dX3_readNumber_116 : decode cX3_readNumber 116 = .ok (.goto 4, 3) := by decide +kernel
theorem dX3_readNumber_119 : decode cX3_readNumber 119 = .ok (.iconst 0, 1) := by decide +kernel
theorem dX3_readNumber_120 : decode cX3_readNumber 120 = .ok (.ireturn, 1) := by decide +kernel
theorem dX3_isDigitHere_0 : decode cX3_isDigitHere 0 = .ok (.aload_n 0, 1) := by decide +kernel
theorem dX3_isDigitHere_1 : decode cX3_isDigitHere 1 = .ok (.getfield 39, 3) := by decide +kernel
theorem dX3_isDigitHere_4 : decode cX3_isDigitHere 4 = .ok (.aload_n 0, 1) := by decide +kernel
theorem dX3_isDigitHere_5 : decode cX3_isDigitHere 5 = .ok (.getfield 36, 3) := by decide +kernel
theorem dX3_isDigitHere_8 : decode cX3_isDigitHere 8 = .ok (.if_icmp .ge 35, 3) := by decide +kernel
theorem dX3_isDigitHere_11 : decode cX3_isDigitHere 11 = .ok (.aload_n 0, 1) := by decide +kernel
theorem dX3_isDigitHere_12 : decode cX3_isDigitHere 12 = .ok (.getfield 25, 3) := by decide +kernel
theorem dX3_isDigitHere_15 : decode cX3_isDigitHere 15 = .ok (.aload_n 0, 1) := by decide +kernel
theorem dX3_isDigitHere_16 : decode cX3_isDigitHere 16 = .ok (.getfield 39, 3) := by decide +kernel
theorem dX3_isDigitHere_19 : decode cX3_isDigitHere 19 = .ok (.iaload, 1) := by decide +kernel
theorem dX3_isDigitHere_20 : decode cX3_isDigitHere 20 = .ok (.bipush 48, 2) := by decide +kernel
theorem dX3_isDigitHere_22 : decode cX3_isDigitHere 22 = .ok (.if_icmp .lt 21, 3) := by decide +kernel
theorem dX3_isDigitHere_25 : decode cX3_isDigitHere 25 = .ok (.aload_n 0, 1) := by decide +kernel
theorem dX3_isDigitHere_26 : decode cX3_isDigitHere 26 = .ok (.getfield 25, 3) := by decide +kernel
theorem dX3_isDigitHere_29 : decode cX3_isDigitHere 29 = .ok (.aload_n 0, 1) := by decide +kernel
theorem dX3_isDigitHere_30 : decode cX3_isDigitHere 30 = .ok (.getfield 39, 3) := by decide +kernel
theorem dX3_isDigitHere_33 : decode cX3_isDigitHere 33 = .ok (.iaload, 1) := by decide +kernel
theorem dX3_isDigitHere_34 : decode cX3_isDigitHere 34 = .ok (.bipush 57, 2) := by decide +kernel
theorem dX3_isDigitHere_36 : decode cX3_isDigitHere 36 = .ok (.if_icmp .gt 7, 3) := by decide +kernel
theorem dX3_isDigitHere_39 : decode cX3_isDigitHere 39 = .ok (.iconst 1, 1) := by decide +kernel
theorem dX3_isDigitHere_40 : decode cX3_isDigitHere 40 = .ok (.goto 4, 3) := by decide +kernel
theorem dX3_isDigitHere_43 : decode cX3_isDigitHere 43 = .ok (.iconst 0, 1) := by decide +kernel
theorem dX3_isDigitHere_44 : decode cX3_isDigitHere 44 = .ok (.ireturn, 1) := by decide +kernel
theorem dX3_readSign_0 : decode cX3_readSign 0 = .ok (.aload_n 0, 1) := by decide +kernel
theorem dX3_readSign_1 : decode cX3_readSign 1 = .ok (.invokevirtual 33, 3) := by decide +kernel
theorem dX3_readSign_4 : decode cX3_readSign 4 = .ok (.aload_n 0, 1) := by decide +kernel
theorem dX3_readSign_5 : decode cX3_readSign 5 = .ok (.getfield 39, 3) := by decide +kernel
theorem dX3_readSign_8 : decode cX3_readSign 8 = .ok (.aload_n 0, 1) := by decide +kernel
theorem dX3_readSign_9 : decode cX3_readSign 9 = .ok (.getfield 36, 3) := by decide +kernel
theorem dX3_readSign_12 : decode cX3_readSign 12 = .ok (.if_icmp .ge 16, 3) := by decide +kernel
theorem dX3_readSign_15 : decode cX3_readSign 15 = .ok (.aload_n 0, 1) := by decide +kernel
theorem dX3_readSign_16 : decode cX3_readSign 16 = .ok (.getfield 25, 3) := by decide +kernel
theorem dX3_readSign_19 : decode cX3_readSign 19 = .ok (.aload_n 0, 1) := by decide +kernel
theorem dX3_readSign_20 : decode cX3_readSign 20 = .ok (.getfield 39, 3) := by decide +kernel
theorem dX3_readSign_23 : decode cX3_readSign 23 = .ok (.iaload, 1) := by decide +kernel
theorem dX3_readSign_24 : decode cX3_readSign 24 = .ok (.iload_n 1, 1) := by decide +kernel
theorem dX3_readSign_25 : decode cX3_readSign 25 = .ok (.if_icmp .eq 13, 3) := by decide +kernel
theorem dX3_readSign_28 : decode cX3_readSign 28 = .ok (.aload_n 0, 1) := by decide +kernel
theorem dX3_readSign_29 : decode cX3_readSign 29 = .ok (.iconst 1, 1) := by decide +kernel
theorem dX3_readSign_30 : decode cX3_readSign 30 = .ok (.aload_n 0, 1) := by decide +kernel
theorem dX3_readSign_31 : decode cX3_readSign 31 = .ok (.getfield 39, 3) := by decide +kernel
theorem dX3_readSign_34 : decode cX3_readSign 34 = .ok (.invokevirtual 53, 3) := by decide +kernel
theorem dX3_readSign_37 : decode cX3_readSign 37 = .ok (.ireturn, 1) := by decide +kernel
theorem dX3_readSign_38 : decode cX3_readSign 38 = .ok (.aload_n 0, 1) := by decide +kernel
theorem dX3_readSign_39 : decode cX3_readSign 39 = .ok (.dup, 1) := by decide +kernel
theorem dX3_readSign_40 : decode cX3_readSign 40 = .ok (.getfield 39, 3) := by decide +kernel
theorem dX3_readSign_43 : decode cX3_readSign 43 = .ok (.iconst 1, 1) := by decide +kernel
theorem dX3_readSign_44 : decode cX3_readSign 44 = .ok (.iadd, 1) := by decide +kernel
theorem dX3_readSign_45 : decode cX3_readSign 45 = .ok (.putfield 39, 3) := by decide +kernel
theorem dX3_readSign_48 : decode cX3_readSign 48 = .ok (.iconst 1, 1) := by decide +kernel
theorem dX3_readSign_49 : decode cX3_readSign 49 = .ok (.ireturn, 1) := by decide +kernel
theorem dX3_skipBlanks_0 : decode cX3_skipBlanks 0 = .ok (.aload_n 0, 1) := by decide +kernel
theorem dX3_skipBlanks_1 : decode cX3_skipBlanks 1 = .ok (.getfield 39, 3) := by decide +kernel
theorem dX3_skipBlanks_4 : decode cX3_skipBlanks 4 = .ok (.aload_n 0, 1) := by decide +kernel
theorem dX3_skipBlanks_5 : decode cX3_skipBlanks 5 = .ok (.getfield 36, 3) := by decide +kernel
theorem dX3_skipBlanks_8 : decode cX3_skipBlanks 8 = .ok (.if_icmp .ge 30, 3) := by decide +kernel
theorem dX3_skipBlanks_11 : decode cX3_skipBlanks 11 = .ok (.aload_n 0, 1) := by decide +kernel
theorem dX3_skipBlanks_12 : decode cX3_skipBlanks 12 = .ok (.getfield 25, 3) := by decide +kernel
theorem dX3_skipBlanks_15 : decode cX3_skipBlanks 15 = .ok (.aload_n 0, 1) := by decide +kernel
theorem dX3_skipBlanks_16 : decode cX3_skipBlanks 16 = .ok (.getfield 39, 3) := by decide +kernel
theorem dX3_skipBlanks_19 : decode cX3_skipBlanks 19 = .ok (.iaload, 1) := by decide +kernel
theorem dX3_skipBlanks_20 : decode cX3_skipBlanks 20 = .ok (.bipush 32, 2) := by decide +kernel
theorem dX3_skipBlanks_22 : decode cX3_skipBlanks 22 = .ok (.if_icmp .ne 16, 3) := by decide +kernel
theorem dX3_skipBlanks_25 : decode cX3_skipBlanks 25 = .ok (.aload_n 0, 1) := by decide +kernel
theorem dX3_skipBlanks_26 : decode cX3_skipBlanks 26 = .ok (.dup, 1) := by decide +kernel
theorem dX3_skipBlanks_27 : decode cX3_skipBlanks 27 = .ok (.getfield 39, 3) := by decide +kernel
theorem dX3_skipBlanks_30 : decode cX3_skipBlanks 30 = .ok (.iconst 1, 1) := by decide +kernel
theorem dX3_skipBlanks_31 : decode cX3_skipBlanks 31 = .ok (.iadd, 1) := by decide +kernel
theorem dX3_skipBlanks_32 : decode cX3_skipBlanks 32 = .ok (.putfield 39, 3) := by decide +kernel
theorem dX3_skipBlanks_35 : decode cX3_skipBlanks 35 = .ok (.goto (-35), 3) := by decide +kernel
theorem dX3_skipBlanks_38 : decode cX3_skipBlanks 38 = .ok (.return_, 1) := by decide +kernel
theorem dX3_skipWord_0 : decode cX3_skipWord 0 = .ok (.aload_n 0, 1) := by decide +kernel
theorem dX3_skipWord_1 : decode cX3_skipWord 1 = .ok (.getfield 39, 3) := by decide +kernel
theorem dX3_skipWord_4 : decode cX3_skipWord 4 = .ok (.aload_n 0, 1) := by decide +kernel
theorem dX3_skipWord_5 : decode cX3_skipWord 5 = .ok (.getfield 36, 3) := by decide +kernel
theorem dX3_skipWord_8 : decode cX3_skipWord 8 = .ok (.if_icmp .ge 44, 3) := by decide +kernel
theorem dX3_skipWord_11 : decode cX3_skipWord 11 = .ok (.aload_n 0, 1) := by decide +kernel
theorem dX3_skipWord_12 : decode cX3_skipWord 12 = .ok (.getfield 25, 3) := by decide +kernel
theorem dX3_skipWord_15 : decode cX3_skipWord 15 = .ok (.aload_n 0, 1) := by decide +kernel
theorem dX3_skipWord_16 : decode cX3_skipWord 16 = .ok (.getfield 39, 3) := by decide +kernel
theorem dX3_skipWord_19 : decode cX3_skipWord 19 = .ok (.iaload, 1) := by decide +kernel
theorem dX3_skipWord_20 : decode cX3_skipWord 20 = .ok (.bipush 97, 2) := by decide +kernel
theorem dX3_skipWord_22 : decode cX3_skipWord 22 = .ok (.if_icmp .lt 30, 3) := by decide +kernel
theorem dX3_skipWord_25 : decode cX3_skipWord 25 = .ok (.aload_n 0, 1) := by decide +kernel
theorem dX3_skipWord_26 : decode cX3_skipWord 26 = .ok (.getfield 25, 3) := by decide +kernel
theorem dX3_skipWord_29 : decode cX3_skipWord 29 = .ok (.aload_n 0, 1) := by decide +kernel
theorem dX3_skipWord_30 : decode cX3_skipWord 30 = .ok (.getfield 39, 3) := by decide +kernel
theorem dX3_skipWord_33 : decode cX3_skipWord 33 = .ok (.iaload, 1) := by decide +kernel
theorem dX3_skipWord_34 : decode cX3_skipWord 34 = .ok (.bipush 122, 2) := by decide +kernel
theorem dX3_skipWord_36 : decode cX3_skipWord 36 = .ok (.if_icmp .gt 16, 3) := by decide +kernel
theorem dX3_skipWord_39 : decode cX3_skipWord 39 = .ok (.aload_n 0, 1) := by decide +kernel
theorem dX3_skipWord_40 : decode cX3_skipWord 40 = .ok (.dup, 1) := by decide +kernel
theorem dX3_skipWord_41 : decode cX3_skipWord 41 = .ok (.getfield 39, 3) := by decide +kernel
theorem dX3_skipWord_44 : decode cX3_skipWord 44 = .ok (.iconst 1, 1) := by decide +kernel
theorem dX3_skipWord_45 : decode cX3_skipWord 45 = .ok (.iadd, 1) := by decide +kernel
theorem dX3_skipWord_46 : decode cX3_skipWord 46 = .ok (.putfield 39, 3) := by decide +kernel
theorem dX3_skipWord_49 : decode cX3_skipWord 49 = .ok (.goto (-49), 3) := by decide +kernel
theorem dX3_skipWord_52 : decode cX3_skipWord 52 = .ok (.return_, 1) := by decide +kernel
theorem dX3_spells_0 : decode cX3_spells 0 = .ok (.aload_n 0, 1) := by decide +kernel
theorem dX3_spells_1 : decode cX3_spells 1 = .ok (.getfield 39, 3) := by decide +kernel
theorem dX3_spells_4 : decode cX3_spells 4 = .ok (.iload_n 1, 1) := by decide +kernel
theorem dX3_spells_5 : decode cX3_spells 5 = .ok (.isub, 1) := by decide +kernel
theorem dX3_spells_6 : decode cX3_spells 6 = .ok (.aload_n 2, 1) := by decide +kernel
theorem dX3_spells_7 : decode cX3_spells 7 = .ok (.invokevirtual 151, 3) := by decide +kernel
theorem dX3_spells_10 : decode cX3_spells 10 = .ok (.if_icmp .eq 5, 3) := by decide +kernel
theorem dX3_spells_13 : decode cX3_spells 13 = .ok (.iconst 0, 1) := by decide +kernel
theorem dX3_spells_14 : decode cX3_spells 14 = .ok (.ireturn, 1) := by decide +kernel
theorem dX3_spells_15 : decode cX3_spells 15 = .ok (.iconst 0, 1) := by decide +kernel
theorem dX3_spells_16 : decode cX3_spells 16 = .ok (.istore_n 3, 1) := by decide +kernel
theorem dX3_spells_17 : decode cX3_spells 17 = .ok (.iload_n 3, 1) := by decide +kernel
theorem dX3_spells_18 : decode cX3_spells 18 = .ok (.aload_n 2, 1) := by decide +kernel
theorem dX3_spells_19 : decode cX3_spells 19 = .ok (.invokevirtual 151, 3) := by decide +kernel
theorem dX3_spells_22 : decode cX3_spells 22 = .ok (.if_icmp .ge 27, 3) := by decide +kernel
theorem dX3_spells_25 : decode cX3_spells 25 = .ok (.aload_n 0, 1) := by decide +kernel
theorem dX3_spells_26 : decode cX3_spells 26 = .ok (.getfield 25, 3) := by decide +kernel
theorem dX3_spells_29 : decode cX3_spells 29 = .ok (.iload_n 1, 1) := by decide +kernel
theorem dX3_spells_30 : decode cX3_spells 30 = .ok (.iload_n 3, 1) := by decide +kernel
theorem dX3_spells_31 : decode cX3_spells 31 = .ok (.iadd, 1) := by decide +kernel
theorem dX3_spells_32 : decode cX3_spells 32 = .ok (.iaload, 1) := by decide +kernel
theorem dX3_spells_33 : decode cX3_spells 33 = .ok (.aload_n 2, 1) := by decide +kernel
theorem dX3_spells_34 : decode cX3_spells 34 = .ok (.iload_n 3, 1) := by decide +kernel
theorem dX3_spells_35 : decode cX3_spells 35 = .ok (.invokevirtual 155, 3) := by decide +kernel
theorem dX3_spells_38 : decode cX3_spells 38 = .ok (.if_icmp .eq 5, 3) := by decide +kernel
theorem dX3_spells_41 : decode cX3_spells 41 = .ok (.iconst 0, 1) := by decide +kernel
theorem dX3_spells_42 : decode cX3_spells 42 = .ok (.ireturn, 1) := by decide +kernel
theorem dX3_spells_43 : decode cX3_spells 43 = .ok (.iinc 3 1, 3) := by decide +kernel
theorem dX3_spells_46 : decode cX3_spells 46 = .ok (.goto (-29), 3) := by decide +kernel
theorem dX3_spells_49 : decode cX3_spells 49 = .ok (.iconst 1, 1) := by decide +kernel
theorem dX3_spells_50 : decode cX3_spells 50 = .ok (.ireturn, 1) := by decide +kernel
theorem dX3_refuse_0 : decode cX3_refuse 0 = .ok (.aload_n 0, 1) := by decide +kernel
theorem dX3_refuse_1 : decode cX3_refuse 1 = .ok (.iload_n 1, 1) := by decide +kernel
theorem dX3_refuse_2 : decode cX3_refuse 2 = .ok (.putfield 42, 3) := by decide +kernel
theorem dX3_refuse_5 : decode cX3_refuse 5 = .ok (.aload_n 0, 1) := by decide +kernel
theorem dX3_refuse_6 : decode cX3_refuse 6 = .ok (.iload_n 2, 1) := by decide +kernel
theorem dX3_refuse_7 : decode cX3_refuse 7 = .ok (.putfield 22, 3) := by decide +kernel
theorem dX3_refuse_10 : decode cX3_refuse 10 = .ok (.iconst 0, 1) := by decide +kernel
theorem dX3_refuse_11 : decode cX3_refuse 11 = .ok (.ireturn, 1) := by decide +kernel
