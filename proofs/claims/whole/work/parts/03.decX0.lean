theorem dX0_init_0 : decode cX0_init 0 = .ok (.aload_n 0, 1) := by decide +kernel
theorem dX0_init_1 : decode cX0_init 1 = .ok (.invokespecial 3, 3) := by decide +kernel
theorem dX0_init_4 : decode cX0_init 4 = .ok (.aload_n 0, 1) := by decide +kernel
theorem dX0_init_5 : decode cX0_init 5 = .ok (.bipush 16, 2) := by decide +kernel
theorem dX0_init_7 : decode cX0_init 7 = .ok (.newarray .int, 2) := by decide +kernel
theorem dX0_init_9 : decode cX0_init 9 = .ok (.putfield 9, 3) := by decide +kernel
theorem dX0_init_12 : decode cX0_init 12 = .ok (.aload_n 0, 1) := by decide +kernel
theorem dX0_init_13 : decode cX0_init 13 = .ok (.bipush 16, 2) := by decide +kernel
theorem dX0_init_15 : decode cX0_init 15 = .ok (.newarray .int, 2) := by decide +kernel
theorem dX0_init_17 : decode cX0_init 17 = .ok (.putfield 15, 3) := by decide +kernel
theorem dX0_init_20 : decode cX0_init 20 = .ok (.aload_n 0, 1) := by decide +kernel
theorem dX0_init_21 : decode cX0_init 21 = .ok (.iconst (-1), 1) := by decide +kernel
theorem dX0_init_22 : decode cX0_init 22 = .ok (.putfield 18, 3) := by decide +kernel
theorem dX0_init_25 : decode cX0_init 25 = .ok (.return_, 1) := by decide +kernel
theorem dX1_init_0 : decode cX1_init 0 = .ok (.aload_n 0, 1) := by decide +kernel
theorem dX1_init_1 : decode cX1_init 1 = .ok (.invokespecial 3, 3) := by decide +kernel
theorem dX1_init_4 : decode cX1_init 4 = .ok (.aload_n 0, 1) := by decide +kernel
theorem dX1_init_5 : decode cX1_init 5 = .ok (.bipush 7, 2) := by decide +kernel
theorem dX1_init_7 : decode cX1_init 7 = .ok (.newarray .int, 2) := by decide +kernel
theorem dX1_init_9 : decode cX1_init 9 = .ok (.putfield 9, 3) := by decide +kernel
theorem dX1_init_12 : decode cX1_init 12 = .ok (.aload_n 0, 1) := by decide +kernel
theorem dX1_init_13 : decode cX1_init 13 = .ok (.bipush 7, 2) := by decide +kernel
theorem dX1_init_15 : decode cX1_init 15 = .ok (.newarray .int, 2) := by decide +kernel
theorem dX1_init_17 : decode cX1_init 17 = .ok (.putfield 15, 3) := by decide +kernel
theorem dX1_init_20 : decode cX1_init 20 = .ok (.aload_n 0, 1) := by decide +kernel
theorem dX1_init_21 : decode cX1_init 21 = .ok (.iconst (-1), 1) := by decide +kernel
theorem dX1_init_22 : decode cX1_init 22 = .ok (.putfield 18, 3) := by decide +kernel
theorem dX1_init_25 : decode cX1_init 25 = .ok (.aload_n 0, 1) := by decide +kernel
theorem dX1_init_26 : decode cX1_init 26 = .ok (.iconst (-1), 1) := by decide +kernel
theorem dX1_init_27 : decode cX1_init 27 = .ok (.putfield 22, 3) := by decide +kernel
theorem dX1_init_30 : decode cX1_init 30 = .ok (.return_, 1) := by decide +kernel
theorem dX1_find_0 : decode cX1_find 0 = .ok (.aload_n 0, 1) := by decide +kernel
theorem dX1_find_1 : decode cX1_find 1 = .ok (.getfield 18, 3) := by decide +kernel
theorem dX1_find_4 : decode cX1_find 4 = .ok (.aload_n 1, 1) := by decide +kernel
theorem dX1_find_5 : decode cX1_find 5 = .ok (.getfield 25, 3) := by decide +kernel
theorem dX1_find_8 : decode cX1_find 8 = .ok (.if_icmp .ne 15, 3) := by decide +kernel
theorem dX1_find_11 : decode cX1_find 11 = .ok (.aload_n 0, 1) := by decide +kernel
theorem dX1_find_12 : decode cX1_find 12 = .ok (.getfield 22, 3) := by decide +kernel
theorem dX1_find_15 : decode cX1_find 15 = .ok (.aload_n 1, 1) := by decide +kernel
theorem dX1_find_16 : decode cX1_find 16 = .ok (.getfield 30, 3) := by decide +kernel
theorem dX1_find_19 : decode cX1_find 19 = .ok (.if_icmp .ne 4, 3) := by decide +kernel
theorem dX1_find_22 : decode cX1_find 22 = .ok (.return_, 1) := by decide +kernel
theorem dX1_find_23 : decode cX1_find 23 = .ok (.aload_n 0, 1) := by decide +kernel
theorem dX1_find_24 : decode cX1_find 24 = .ok (.aload_n 1, 1) := by decide +kernel
theorem dX1_find_25 : decode cX1_find 25 = .ok (.getfield 25, 3) := by decide +kernel
theorem dX1_find_28 : decode cX1_find 28 = .ok (.putfield 18, 3) := by decide +kernel
theorem dX1_find_31 : decode cX1_find 31 = .ok (.aload_n 0, 1) := by decide +kernel
theorem dX1_find_32 : decode cX1_find 32 = .ok (.aload_n 1, 1) := by decide +kernel
theorem dX1_find_33 : decode cX1_find 33 = .ok (.getfield 30, 3) := by decide +kernel
theorem dX1_find_36 : decode cX1_find 36 = .ok (.putfield 22, 3) := by decide +kernel
theorem dX1_find_39 : decode cX1_find 39 = .ok (.aload_n 0, 1) := by decide +kernel
theorem dX1_find_40 : decode cX1_find 40 = .ok (.ldc 33, 2) := by decide +kernel
theorem dX1_find_42 : decode cX1_find 42 = .ok (.putfield 34, 3) := by decide +kernel
theorem dX1_find_45 : decode cX1_find 45 = .ok (.aload_n 0, 1) := by decide +kernel
theorem dX1_find_46 : decode cX1_find 46 = .ok (.ldc 33, 2) := by decide +kernel
theorem dX1_find_48 : decode cX1_find 48 = .ok (.putfield 37, 3) := by decide +kernel
theorem dX1_find_51 : decode cX1_find 51 = .ok (.aload_n 0, 1) := by decide +kernel
theorem dX1_find_52 : decode cX1_find 52 = .ok (.aload_n 1, 1) := by decide +kernel
theorem dX1_find_53 : decode cX1_find 53 = .ok (.iconst 0, 1) := by decide +kernel
theorem dX1_find_54 : decode cX1_find 54 = .ok (.iconst 0, 1) := by decide +kernel
theorem dX1_find_55 : decode cX1_find 55 = .ok (.invokevirtual 40, 3) := by decide +kernel
theorem dX1_find_58 : decode cX1_find 58 = .ok (.return_, 1) := by decide +kernel
theorem dX1_tryFrom_0 : decode cX1_tryFrom 0 = .ok (.iload_n 2, 1) := by decide +kernel
theorem dX1_tryFrom_1 : decode cX1_tryFrom 1 = .ok (.aload_n 1, 1) := by decide +kernel
theorem dX1_tryFrom_2 : decode cX1_tryFrom 2 = .ok (.getfield 25, 3) := by decide +kernel
theorem dX1_tryFrom_5 : decode cX1_tryFrom 5 = .ok (.if_icmp .ge 9, 3) := by decide +kernel
theorem dX1_tryFrom_8 : decode cX1_tryFrom 8 = .ok (.iload_n 2, 1) := by decide +kernel
theorem dX1_tryFrom_9 : decode cX1_tryFrom 9 = .ok (.bipush 7, 2) := by decide +kernel
theorem dX1_tryFrom_11 : decode cX1_tryFrom 11 = .ok (.if_icmp .lt 9, 3) := by decide +kernel
theorem dX1_tryFrom_14 : decode cX1_tryFrom 14 = .ok (.aload_n 0, 1) := by decide +kernel
theorem dX1_tryFrom_15 : decode cX1_tryFrom 15 = .ok (.aload_n 1, 1) := by decide +kernel
theorem dX1_tryFrom_16 : decode cX1_tryFrom 16 = .ok (.invokevirtual 44, 3) := by decide +kernel
theorem dX1_tryFrom_19 : decode cX1_tryFrom 19 = .ok (.return_, 1) := by decide +kernel
theorem dX1_tryFrom_20 : decode cX1_tryFrom 20 = .ok (.iconst 0, 1) := by decide +kernel
theorem dX1_tryFrom_21 : decode cX1_tryFrom 21 = .ok (.istore 4, 2) := by decide +kernel
theorem dX1_tryFrom_23 : decode cX1_tryFrom 23 = .ok (.iload 4, 2) := by decide +kernel
theorem dX1_tryFrom_25 : decode cX1_tryFrom 25 = .ok (.aload_n 1, 1) := by decide +kernel
theorem dX1_tryFrom_26 : decode cX1_tryFrom 26 = .ok (.getfield 25, 3) := by decide +kernel
theorem dX1_tryFrom_29 : decode cX1_tryFrom 29 = .ok (.if_icmp .ge 51, 3) := by decide +kernel
theorem dX1_tryFrom_32 : decode cX1_tryFrom 32 = .ok (.iload_n 3, 1) := by decide +kernel
theorem dX1_tryFrom_33 : decode cX1_tryFrom 33 = .ok (.iconst 1, 1) := by decide +kernel
theorem dX1_tryFrom_34 : decode cX1_tryFrom 34 = .ok (.iload 4, 2) := by decide +kernel
theorem dX1_tryFrom_36 : decode cX1_tryFrom 36 = .ok (.ishl, 1) := by decide +kernel
theorem dX1_tryFrom_37 : decode cX1_tryFrom 37 = .ok (.iand, 1) := by decide +kernel
theorem dX1_tryFrom_38 : decode cX1_tryFrom 38 = .ok (.ifCond .ne 36, 3) := by decide +kernel
theorem dX1_tryFrom_41 : decode cX1_tryFrom 41 = .ok (.aload_n 0, 1) := by decide +kernel
theorem dX1_tryFrom_42 : decode cX1_tryFrom 42 = .ok (.aload_n 1, 1) := by decide +kernel
theorem dX1_tryFrom_43 : decode cX1_tryFrom 43 = .ok (.iload_n 2, 1) := by decide +kernel
theorem dX1_tryFrom_44 : decode cX1_tryFrom 44 = .ok (.iload 4, 2) := by decide +kernel
theorem dX1_tryFrom_46 : decode cX1_tryFrom 46 = .ok (.invokevirtual 48, 3) := by decide +kernel
theorem dX1_tryFrom_49 : decode cX1_tryFrom 49 = .ok (.ifCond .ne 25, 3) := by decide +kernel
theorem dX1_tryFrom_52 : decode cX1_tryFrom 52 = .ok (.aload_n 0, 1) := by decide +kernel
theorem dX1_tryFrom_53 : decode cX1_tryFrom 53 = .ok (.getfield 15, 3) := by decide +kernel
theorem dX1_tryFrom_56 : decode cX1_tryFrom 56 = .ok (.iload_n 2, 1) := by decide +kernel
theorem dX1_tryFrom_57 : decode cX1_tryFrom 57 = .ok (.iload 4, 2) := by decide +kernel
theorem dX1_tryFrom_59 : decode cX1_tryFrom 59 = .ok (.iastore, 1) := by decide +kernel
theorem dX1_tryFrom_60 : decode cX1_tryFrom 60 = .ok (.aload_n 0, 1) := by decide +kernel
theorem dX1_tryFrom_61 : decode cX1_tryFrom 61 = .ok (.aload_n 1, 1) := by decide +kernel
theorem dX1_tryFrom_62 : decode cX1_tryFrom 62 = .ok (.iload_n 2, 1) := by decide +kernel
theorem dX1_tryFrom_63 : decode cX1_tryFrom 63 = .ok (.iconst 1, 1) := by decide +kernel
theorem dX1_tryFrom_64 : decode cX1_tryFrom 64 = .ok (.iadd, 1) := by decide +kernel
theorem dX1_tryFrom_65 : decode cX1_tryFrom 65 = .ok (.iload_n 3, 1) := by decide +kernel
theorem dX1_tryFrom_66 : decode cX1_tryFrom 66 = .ok (.iconst 1, 1) := by decide +kernel
theorem dX1_tryFrom_67 : decode cX1_tryFrom 67 = .ok (.iload 4, 2) := by decide +kernel
theorem dX1_tryFrom_69 : decode cX1_tryFrom 69 = .ok (.ishl, 1) := by decide +kernel
theorem dX1_tryFrom_70 : decode cX1_tryFrom 70 = .ok (.ior, 1) := by decide +kernel
theorem dX1_tryFrom_71 : decode cX1_tryFrom 71 = .ok (.invokevirtual 40, 3) := by decide +kernel
theorem dX1_tryFrom_74 : decode cX1_tryFrom 74 = .ok (.iinc 4 1, 3) := by decide +kernel
theorem dX1_tryFrom_77 : decode cX1_tryFrom 77 = .ok (.goto (-54), 3) := by decide +kernel
theorem dX1_tryFrom_80 : decode cX1_tryFrom 80 = .ok (.return_, 1) := by decide +kernel
theorem dX1_isNeedless_0 : decode cX1_isNeedless 0 = .ok (.iload_n 2, 1) := by decide +kernel
theorem dX1_isNeedless_1 : decode cX1_isNeedless 1 = .ok (.ifCond .eq 15, 3) := by decide +kernel
theorem dX1_isNeedless_4 : decode cX1_isNeedless 4 = .ok (.aload_n 0, 1) := by decide +kernel
theorem dX1_isNeedless_5 : decode cX1_isNeedless 5 = .ok (.getfield 15, 3) := by decide +kernel
theorem dX1_isNeedless_8 : decode cX1_isNeedless 8 = .ok (.iload_n 2, 1) := by decide +kernel
theorem dX1_isNeedless_9 : decode cX1_isNeedless 9 = .ok (.iconst 1, 1) := by decide +kernel
theorem dX1_isNeedless_10 : decode cX1_isNeedless 10 = .ok (.isub, 1) := by decide +kernel
theorem dX1_isNeedless_11 : decode cX1_isNeedless 11 = .ok (.iaload, 1) := by decide +kernel
theorem dX1_isNeedless_12 : decode cX1_isNeedless 12 = .ok (.iload_n 3, 1) := by decide +kernel
theorem dX1_isNeedless_13 : decode cX1_isNeedless 13 = .ok (.if_icmp .ge 5, 3) := by decide +kernel
theorem dX1_isNeedless_16 : decode cX1_isNeedless 16 = .ok (.iconst 0, 1) := by decide +kernel
theorem dX1_isNeedless_17 : decode cX1_isNeedless 17 = .ok (.ireturn, 1) := by decide +kernel
theorem dX1_isNeedless_18 : decode cX1_isNeedless 18 = .ok (.aload_n 1, 1) := by decide +kernel
theorem dX1_isNeedless_19 : decode cX1_isNeedless 19 = .ok (.getfield 52, 3) := by decide +kernel
theorem dX1_isNeedless_22 : decode cX1_isNeedless 22 = .ok (.aload_n 0, 1) := by decide +kernel
theorem dX1_isNeedless_23 : decode cX1_isNeedless 23 = .ok (.getfield 15, 3) := by decide +kernel
theorem dX1_isNeedless_26 : decode cX1_isNeedless 26 = .ok (.iload_n 2, 1) := by decide +kernel
theorem dX1_isNeedless_27 : decode cX1_isNeedless 27 = .ok (.iconst 1, 1) := by decide +kernel
theorem dX1_isNeedless_28 : decode cX1_isNeedless 28 = .ok (.isub, 1) := by decide +kernel
theorem dX1_isNeedless_29 : decode cX1_isNeedless 29 = .ok (.iaload, 1) := by decide +kernel
theorem dX1_isNeedless_30 : decode cX1_isNeedless 30 = .ok (.aaload, 1) := by decide +kernel
theorem dX1_isNeedless_31 : decode cX1_isNeedless 31 = .ok (.astore 4, 2) := by decide +kernel
theorem dX1_isNeedless_33 : decode cX1_isNeedless 33 = .ok (.aload 4, 2) := by decide +kernel
theorem dX1_isNeedless_35 : decode cX1_isNeedless 35 = .ok (.iload_n 3, 1) := by decide +kernel
theorem dX1_isNeedless_36 : decode cX1_isNeedless 36 = .ok (.invokevirtual 56, 3) := by decide +kernel
theorem dX1_isNeedless_39 : decode cX1_isNeedless 39 = .ok (.ifCond .ne 17, 3) := by decide +kernel
theorem dX1_isNeedless_42 : decode cX1_isNeedless 42 = .ok (.aload 4, 2) := by decide +kernel
theorem dX1_isNeedless_44 : decode cX1_isNeedless 44 = .ok (.aload_n 1, 1) := by decide +kernel
theorem dX1_isNeedless_45 : decode cX1_isNeedless 45 = .ok (.getfield 52, 3) := by decide +kernel
theorem dX1_isNeedless_48 : decode cX1_isNeedless 48 = .ok (.iload_n 3, 1) := by decide +kernel
theorem dX1_isNeedless_49 : decode cX1_isNeedless 49 = .ok (.aaload, 1) := by decide +kernel
theorem dX1_isNeedless_50 : decode cX1_isNeedless 50 = .ok (.invokevirtual 62, 3) := by decide +kernel
theorem dX1_isNeedless_53 : decode cX1_isNeedless 53 = .ok (.ifCond .ne 7, 3) := by decide +kernel
theorem dX1_isNeedless_56 : decode cX1_isNeedless 56 = .ok (.iconst 1, 1) := by decide +kernel
theorem dX1_isNeedless_57 : decode cX1_isNeedless 57 = .ok (.goto 4, 3) := by decide +kernel
theorem dX1_isNeedless_60 : decode cX1_isNeedless 60 = .ok (.iconst 0, 1) := by decide +kernel
theorem dX1_isNeedless_61 : decode cX1_isNeedless 61 = .ok (.ireturn, 1) := by decide +kernel
theorem dX1_judge_0 : decode cX1_judge 0 = .ok (.aload_n 1, 1) := by decide +kernel
theorem dX1_judge_1 : decode cX1_judge 1 = .ok (.iconst 1, 1) := by decide +kernel
theorem dX1_judge_2 : decode cX1_judge 2 = .ok (.aload_n 0, 1) := by decide +kernel
theorem dX1_judge_3 : decode cX1_judge 3 = .ok (.getfield 15, 3) := by decide +kernel
theorem dX1_judge_6 : decode cX1_judge 6 = .ok (.invokevirtual 66, 3) := by decide +kernel
theorem dX1_judge_9 : decode cX1_judge 9 = .ok (.istore_n 2, 1) := by decide +kernel
theorem dX1_judge_10 : decode cX1_judge 10 = .ok (.iload_n 2, 1) := by decide +kernel
theorem dX1_judge_11 : decode cX1_judge 11 = .ok (.aload_n 0, 1) := by decide +kernel
theorem dX1_judge_12 : decode cX1_judge 12 = .ok (.getfield 34, 3) := by decide +kernel
theorem dX1_judge_15 : decode cX1_judge 15 = .ok (.if_icmp .le 4, 3) := by decide +kernel
theorem dX1_judge_18 : decode cX1_judge 18 = .ok (.return_, 1) := by decide +kernel
theorem dX1_judge_19 : decode cX1_judge 19 = .ok (.aload_n 1, 1) := by decide +kernel
theorem dX1_judge_20 : decode cX1_judge 20 = .ok (.iconst 0, 1) := by decide +kernel
theorem dX1_judge_21 : decode cX1_judge 21 = .ok (.aload_n 0, 1) := by decide +kernel
theorem dX1_judge_22 : decode cX1_judge 22 = .ok (.getfield 15, 3) := by decide +kernel
theorem dX1_judge_25 : decode cX1_judge 25 = .ok (.invokevirtual 66, 3) := by decide +kernel
theorem dX1_judge_28 : decode cX1_judge 28 = .ok (.istore_n 3, 1) := by decide +kernel
theorem dX1_judge_29 : decode cX1_judge 29 = .ok (.iload_n 2, 1) := by decide +kernel
theorem dX1_judge_30 : decode cX1_judge 30 = .ok (.aload_n 0, 1) := by decide +kernel
theorem dX1_judge_31 : decode cX1_judge 31 = .ok (.getfield 34, 3) := by decide +kernel
theorem dX1_judge_34 : decode cX1_judge 34 = .ok (.if_icmp .lt 11, 3) := by decide +kernel
theorem dX1_judge_37 : decode cX1_judge 37 = .ok (.iload_n 3, 1) := by decide +kernel
theorem dX1_judge_38 : decode cX1_judge 38 = .ok (.aload_n 0, 1) := by decide +kernel
theorem dX1_judge_39 : decode cX1_judge 39 = .ok (.getfield 37, 3) := by decide +kernel
theorem dX1_judge_42 : decode cX1_judge 42 = .ok (.if_icmp .ge 28, 3) := by decide +kernel
theorem dX1_judge_45 : decode cX1_judge 45 = .ok (.aload_n 0, 1) := by decide +kernel
theorem dX1_judge_46 : decode cX1_judge 46 = .ok (.iload_n 2, 1) := by decide +kernel
theorem dX1_judge_47 : decode cX1_judge 47 = .ok (.putfield 34, 3) := by decide +kernel
theorem dX1_judge_50 : decode cX1_judge 50 = .ok (.aload_n 0, 1) := by decide +kernel
theorem dX1_judge_51 : decode cX1_judge 51 = .ok (.iload_n 3, 1) := by decide +kernel
theorem dX1_judge_52 : decode cX1_judge 52 = .ok (.putfield 37, 3) := by decide +kernel
theorem dX1_judge_55 : decode cX1_judge 55 = .ok (.aload_n 0, 1) := by decide +kernel
theorem dX1_judge_56 : decode cX1_judge 56 = .ok (.getfield 15, 3) := by decide +kernel
theorem dX1_judge_59 : decode cX1_judge 59 = .ok (.iconst 0, 1) := by decide +kernel
theorem dX1_judge_60 : decode cX1_judge 60 = .ok (.aload_n 0, 1) := by decide +kernel
theorem dX1_judge_61 : decode cX1_judge 61 = .ok (.getfield 9, 3) := by decide +kernel
theorem dX1_judge_64 : decode cX1_judge 64 = .ok (.iconst 0, 1) := by decide +kernel
theorem dX1_judge_65 : decode cX1_judge 65 = .ok (.bipush 7, 2) := by decide +kernel
theorem dX1_judge_67 : decode cX1_judge 67 = .ok (.invokestatic 70, 3) := by decide +kernel
theorem dX1_judge_70 : decode cX1_judge 70 = .ok (.return_, 1) := by decide +kernel
theorem dX4_init_0 : decode cX4_init 0 = .ok (.aload_n 0, 1) := by decide +kernel
theorem dX4_init_1 : decode cX4_init 1 = .ok (.invokespecial 3, 3) := by decide +kernel
theorem dX4_init_4 : decode cX4_init 4 = .ok (.aload_n 0, 1) := by decide +kernel
theorem dX4_init_5 : decode cX4_init 5 = .ok (.iconst (-1), 1) := by decide +kernel
theorem dX4_init_6 : decode cX4_init 6 = .ok (.putfield 9, 3) := by decide +kernel
theorem dX4_init_9 : decode cX4_init 9 = .ok (.return_, 1) := by decide +kernel
theorem dX4_clear_0 : decode cX4_clear 0 = .ok (.aload_n 0, 1) := by decide +kernel
theorem dX4_clear_1 : decode cX4_clear 1 = .ok (.iconst 0, 1) := by decide +kernel
theorem dX4_clear_2 : decode cX4_clear 2 = .ok (.putfield 15, 3) := by decide +kernel
theorem dX4_clear_5 : decode cX4_clear 5 = .ok (.aload_n 0, 1) := by decide +kernel
theorem dX4_clear_6 : decode cX4_clear 6 = .ok (.iconst 0, 1) := by decide +kernel
theorem dX4_clear_7 : decode cX4_clear 7 = .ok (.putfield 18, 3) := by decide +kernel
theorem dX4_clear_10 : decode cX4_clear 10 = .ok (.aload_n 0, 1) := by decide +kernel
theorem dX4_clear_11 : decode cX4_clear 11 = .ok (.iconst 0, 1) := by decide +kernel
theorem dX4_clear_12 : decode cX4_clear 12 = .ok (.putfield 21, 3) := by decide +kernel
theorem dX4_clear_15 : decode cX4_clear 15 = .ok (.aload_n 0, 1) := by decide +kernel
theorem dX4_clear_16 : decode cX4_clear 16 = .ok (.iconst 0, 1) := by decide +kernel
theorem dX4_clear_17 : decode cX4_clear 17 = .ok (.putfield 24, 3) := by decide +kernel
theorem dX4_clear_20 : decode cX4_clear 20 = .ok (.aload_n 0, 1) := by decide +kernel
theorem dX4_clear_21 : decode cX4_clear 21 = .ok (.iconst (-1), 1) := by decide +kernel
theorem dX4_clear_22 : decode cX4_clear 22 = .ok (.putfield 9, 3) := by decide +kernel
theorem dX4_clear_25 : decode cX4_clear 25 = .ok (.aload_n 0, 1) := by decide +kernel
theorem dX4_clear_26 : decode cX4_clear 26 = .ok (.iconst 0, 1) := by decide +kernel
theorem dX4_clear_27 : decode cX4_clear 27 = .ok (.putfield 27, 3) := by decide +kernel
theorem dX4_clear_30 : decode cX4_clear 30 = .ok (.aload_n 0, 1) := by decide +kernel
theorem dX4_clear_31 : decode cX4_clear 31 = .ok (.iconst 0, 1) := by decide +kernel
theorem dX4_clear_32 : decode cX4_clear 32 = .ok (.putfield 30, 3) := by decide +kernel
theorem dX4_clear_35 : decode cX4_clear 35 = .ok (.return_, 1) := by decide +kernel
theorem dX4_copyFrom_0 : decode cX4_copyFrom 0 = .ok (.aload_n 0, 1) := by decide +kernel
theorem dX4_copyFrom_1 : decode cX4_copyFrom 1 = .ok (.aload_n 1, 1) := by decide +kernel
theorem dX4_copyFrom_2 : decode cX4_copyFrom 2 = .ok (.getfield 15, 3) := by decide +kernel
theorem dX4_copyFrom_5 : decode cX4_copyFrom 5 = .ok (.putfield 15, 3) := by decide +kernel
theorem dX4_copyFrom_8 : decode cX4_copyFrom 8 = .ok (.aload_n 0, 1) := by decide +kernel
theorem dX4_copyFrom_9 : decode cX4_copyFrom 9 = .ok (.aload_n 1, 1) := by decide +kernel
theorem dX4_copyFrom_10 : decode cX4_copyFrom 10 = .ok (.getfield 18, 3) := by decide +kernel
theorem dX4_copyFrom_13 : decode cX4_copyFrom 13 = .ok (.putfield 18, 3) := by decide +kernel
theorem dX4_copyFrom_16 : decode cX4_copyFrom 16 = .ok (.aload_n 0, 1) := by decide +kernel
theorem dX4_copyFrom_17 : decode cX4_copyFrom 17 = .ok (.aload_n 1, 1) := by decide +kernel
theorem dX4_copyFrom_18 : decode cX4_copyFrom 18 = .ok (.getfield 21, 3) := by decide +kernel
theorem dX4_copyFrom_21 : decode cX4_copyFrom 21 = .ok (.putfield 21, 3) := by decide +kernel
theorem dX4_copyFrom_24 : decode cX4_copyFrom 24 = .ok (.aload_n 0, 1) := by decide +kernel
theorem dX4_copyFrom_25 : decode cX4_copyFrom 25 = .ok (.aload_n 1, 1) := by decide +kernel
theorem dX4_copyFrom_26 : decode cX4_copyFrom 26 = .ok (.getfield 24, 3) := by decide +kernel
theorem dX4_copyFrom_29 : decode cX4_copyFrom 29 = .ok (.putfield 24, 3) := by decide +kernel
theorem dX4_copyFrom_32 : decode cX4_copyFrom 32 = .ok (.aload_n 0, 1) := by decide +kernel
theorem dX4_copyFrom_33 : decode cX4_copyFrom 33 = .ok (.aload_n 1, 1) := by decide +kernel
theorem dX4_copyFrom_34 : decode cX4_copyFrom 34 = .ok (.getfield 9, 3) := by decide +kernel
theorem dX4_copyFrom_37 : decode cX4_copyFrom 37 = .ok (.putfield 9, 3) := by decide +kernel
theorem dX4_copyFrom_40 : decode cX4_copyFrom 40 = .ok (.aload_n 0, 1) := by decide +kernel
theorem dX4_copyFrom_41 : decode cX4_copyFrom 41 = .ok (.aload_n 1, 1) := by decide +kernel
theorem dX4_copyFrom_42 : decode cX4_copyFrom 42 = .ok (.getfield 27, 3) := by decide +kernel
theorem dX4_copyFrom_45 : decode cX4_copyFrom 45 = .ok (.putfield 27, 3) := by decide +kernel
theorem dX4_copyFrom_48 : decode cX4_copyFrom 48 = .ok (.aload_n 0, 1) := by decide +kernel
theorem dX4_copyFrom_49 : decode cX4_copyFrom 49 = .ok (.aload_n 1, 1) := by decide +kernel
theorem dX4_copyFrom_50 : decode cX4_copyFrom 50 = .ok (.getfield 30, 3) := by decide +kernel
theorem dX4_copyFrom_53 : decode cX4_copyFrom 53 = .ok (.putfield 30, 3) := by decide +kernel
theorem dX4_copyFrom_56 : decode cX4_copyFrom 56 = .ok (.return_, 1) := by decide +kernel
theorem dX4_drawnHours_0 : decode cX4_drawnHours 0 = .ok (.aload_n 0, 1) := by decide +kernel
theorem dX4_drawnHours_1 : decode cX4_drawnHours 1 = .ok (.getfield 18, 3) := by decide +kernel
theorem dX4_drawnHours_4 : decode cX4_drawnHours 4 = .ok (.aload_n 0, 1) := by decide +kernel
theorem dX4_drawnHours_5 : decode cX4_drawnHours 5 = .ok (.getfield 15, 3) := by decide +kernel
theorem dX4_drawnHours_8 : decode cX4_drawnHours 8 = .ok (.isub, 1) := by decide +kernel
theorem dX4_drawnHours_9 : decode cX4_drawnHours 9 = .ok (.iconst 1, 1) := by decide +kernel
theorem dX4_drawnHours_10 : decode cX4_drawnHours 10 = .ok (.iadd, 1) := by decide +kernel
theorem dX4_drawnHours_11 : decode cX4_drawnHours 11 = .ok (.istore_n 2, 1) := by decide +kernel
theorem dX4_drawnHours_12 : decode cX4_drawnHours 12 = .ok (.iload_n 2, 1) := by decide +kernel
theorem dX4_drawnHours_13 : decode cX4_drawnHours 13 = .ok (.ifCond .gt 10, 3) := by decide +kernel
theorem dX4_drawnHours_16 : decode cX4_drawnHours 16 = .ok (.aload_n 0, 1) := by decide +kernel
theorem dX4_drawnHours_17 : decode cX4_drawnHours 17 = .ok (.getfield 15, 3) := by decide +kernel
theorem dX4_drawnHours_20 : decode cX4_drawnHours 20 = .ok (.goto 18, 3) := by decide +kernel
theorem dX4_drawnHours_23 : decode cX4_drawnHours 23 = .ok (.aload_n 0, 1) := by decide +kernel
theorem dX4_drawnHours_24 : decode cX4_drawnHours 24 = .ok (.getfield 15, 3) := by decide +kernel
theorem dX4_drawnHours_27 : decode cX4_drawnHours 27 = .ok (.iload_n 1, 1) := by decide +kernel
theorem dX4_drawnHours_28 : decode cX4_drawnHours 28 = .ok (.i2l, 1) := by decide +kernel
theorem dX4_drawnHours_29 : decode cX4_drawnHours 29 = .ok (.ldc2_w 33, 3) := by decide +kernel
theorem dX4_drawnHours_32 : decode cX4_drawnHours 32 = .ok (.land, 1) := by decide +kernel
theorem dX4_drawnHours_33 : decode cX4_drawnHours 33 = .ok (.iload_n 2, 1) := by decide +kernel
theorem dX4_drawnHours_34 : decode cX4_drawnHours 34 = .ok (.i2l, 1) := by decide +kernel
theorem dX4_drawnHours_35 : decode cX4_drawnHours 35 = .ok (.lrem, 1) := by decide +kernel
theorem dX4_drawnHours_36 : decode cX4_drawnHours 36 = .ok (.l2i, 1) := by decide +kernel
theorem dX4_drawnHours_37 : decode cX4_drawnHours 37 = .ok (.iadd, 1) := by decide +kernel
theorem dX4_drawnHours_38 : decode cX4_drawnHours 38 = .ok (.ireturn, 1) := by decide +kernel
theorem dX4_isAfter_0 : decode cX4_isAfter 0 = .ok (.aload_n 0, 1) := by decide +kernel
theorem dX4_isAfter_1 : decode cX4_isAfter 1 = .ok (.getfield 27, 3) := by decide +kernel
theorem dX4_isAfter_4 : decode cX4_isAfter 4 = .ok (.iconst 1, 1) := by decide +kernel
theorem dX4_isAfter_5 : decode cX4_isAfter 5 = .ok (.iload_n 1, 1) := by decide +kernel
theorem dX4_isAfter_6 : decode cX4_isAfter 6 = .ok (.ishl, 1) := by decide +kernel
theorem dX4_isAfter_7 : decode cX4_isAfter 7 = .ok (.iand, 1) := by decide +kernel
theorem dX4_isAfter_8 : decode cX4_isAfter 8 = .ok (.ifCond .eq 7, 3) := by decide +kernel
theorem dX4_isAfter_11 : decode cX4_isAfter 11 = .ok (.iconst 1, 1) := by decide +kernel
theorem dX4_isAfter_12 : decode cX4_isAfter 12 = .ok (.goto 4, 3) := by decide +kernel
theorem dX4_isAfter_15 : decode cX4_isAfter 15 = .ok (.iconst 0, 1) := by decide +kernel
theorem dX4_isAfter_16 : decode cX4_isAfter 16 = .ok (.ireturn, 1) := by decide +kernel
theorem dX4_competesWith_0 : decode cX4_competesWith 0 = .ok (.aload_n 0, 1) := by decide +kernel
theorem dX4_competesWith_1 : decode cX4_competesWith 1 = .ok (.getfield 30, 3) := by decide +kernel
theorem dX4_competesWith_4 : decode cX4_competesWith 4 = .ok (.aload_n 1, 1) := by decide +kernel
theorem dX4_competesWith_5 : decode cX4_competesWith 5 = .ok (.getfield 30, 3) := by decide +kernel
theorem dX4_competesWith_8 : decode cX4_competesWith 8 = .ok (.iand, 1) := by decide +kernel
theorem dX4_competesWith_9 : decode cX4_competesWith 9 = .ok (.ifCond .ne 17, 3) := by decide +kernel
theorem dX4_competesWith_12 : decode cX4_competesWith 12 = .ok (.aload_n 0, 1) := by decide +kernel
theorem dX4_competesWith_13 : decode cX4_competesWith 13 = .ok (.getfield 24, 3) := by decide +kernel
theorem dX4_competesWith_16 : decode cX4_competesWith 16 = .ok (.ifCond .le 14, 3) := by decide +kernel
theorem dX4_competesWith_19 : decode cX4_competesWith 19 = .ok (.aload_n 1, 1) := by decide +kernel
theorem dX4_competesWith_20 : decode cX4_competesWith 20 = .ok (.getfield 24, 3) := by decide +kernel
theorem dX4_competesWith_23 : decode cX4_competesWith 23 = .ok (.ifCond .le 7, 3) := by decide +kernel
theorem dX4_competesWith_26 : decode cX4_competesWith 26 = .ok (.iconst 1, 1) := by decide +kernel
theorem dX4_competesWith_27 : decode cX4_competesWith 27 = .ok (.goto 4, 3) := by decide +kernel
theorem dX4_competesWith_30 : decode cX4_competesWith 30 = .ok (.iconst 0, 1) := by decide +kernel
theorem dX4_competesWith_31 : decode cX4_competesWith 31 = .ok (.ireturn, 1) := by decide +kernel
theorem dX5_init_0 : decode cX5_init 0 = .ok (.aload_n 0, 1) := by decide +kernel
theorem dX5_init_1 : decode cX5_init 1 = .ok (.invokespecial 3, 3) := by decide +kernel
theorem dX5_init_4 : decode cX5_init 4 = .ok (.aload_n 0, 1) := by decide +kernel
theorem dX5_init_5 : decode cX5_init 5 = .ok (.iconst 0, 1) := by decide +kernel
theorem dX5_init_6 : decode cX5_init 6 = .ok (.putfield 9, 3) := by decide +kernel
theorem dX5_init_9 : decode cX5_init 9 = .ok (.aload_n 0, 1) := by decide +kernel
theorem dX5_init_10 : decode cX5_init 10 = .ok (.iconst 0, 1) := by decide +kernel
theorem dX5_init_11 : decode cX5_init 11 = .ok (.putfield 15, 3) := by decide +kernel
theorem dX5_init_14 : decode cX5_init 14 = .ok (.aload_n 0, 1) := by decide +kernel
theorem dX5_init_15 : decode cX5_init 15 = .ok (.bipush 30, 2) := by decide +kernel
theorem dX5_init_17 : decode cX5_init 17 = .ok (.newarray .int, 2) := by decide +kernel
theorem dX5_init_19 : decode cX5_init 19 = .ok (.putfield 18, 3) := by decide +kernel
theorem dX5_init_22 : decode cX5_init 22 = .ok (.aload_n 0, 1) := by decide +kernel
theorem dX5_init_23 : decode cX5_init 23 = .ok (.bipush 30, 2) := by decide +kernel
theorem dX5_init_25 : decode cX5_init 25 = .ok (.newarray .int, 2) := by decide +kernel
theorem dX5_init_27 : decode cX5_init 27 = .ok (.putfield 22, 3) := by decide +kernel
theorem dX5_init_30 : decode cX5_init 30 = .ok (.aload_n 0, 1) := by decide +kernel
theorem dX5_init_31 : decode cX5_init 31 = .ok (.bipush 30, 2) := by decide +kernel
theorem dX5_init_33 : decode cX5_init 33 = .ok (.newarray .int, 2) := by decide +kernel
theorem dX5_init_35 : decode cX5_init 35 = .ok (.putfield 25, 3) := by decide +kernel
theorem dX5_init_38 : decode cX5_init 38 = .ok (.return_, 1) := by decide +kernel
theorem dX5_clear_0 : decode cX5_clear 0 = .ok (.aload_n 0, 1) := by decide +kernel
theorem dX5_clear_1 : decode cX5_clear 1 = .ok (.iconst 0, 1) := by decide +kernel
theorem dX5_clear_2 : decode cX5_clear 2 = .ok (.putfield 9, 3) := by decide +kernel
theorem dX5_clear_5 : decode cX5_clear 5 = .ok (.aload_n 0, 1) := by decide +kernel
theorem dX5_clear_6 : decode cX5_clear 6 = .ok (.iconst 0, 1) := by decide +kernel
theorem dX5_clear_7 : decode cX5_clear 7 = .ok (.putfield 15, 3) := by decide +kernel
theorem dX5_clear_10 : decode cX5_clear 10 = .ok (.return_, 1) := by decide +kernel
theorem dX5_has_0 : decode cX5_has 0 = .ok (.iconst 0, 1) := by decide +kernel
theorem dX5_has_1 : decode cX5_has 1 = .ok (.istore_n 2, 1) := by decide +kernel
theorem dX5_has_2 : decode cX5_has 2 = .ok (.iload_n 2, 1) := by decide +kernel
theorem dX5_has_3 : decode cX5_has 3 = .ok (.aload_n 0, 1) := by decide +kernel
theorem dX5_has_4 : decode cX5_has 4 = .ok (.getfield 9, 3) := by decide +kernel
theorem dX5_has_7 : decode cX5_has 7 = .ok (.if_icmp .ge 21, 3) := by decide +kernel
theorem dX5_has_10 : decode cX5_has 10 = .ok (.aload_n 0, 1) := by decide +kernel
theorem dX5_has_11 : decode cX5_has 11 = .ok (.getfield 18, 3) := by decide +kernel
theorem dX5_has_14 : decode cX5_has 14 = .ok (.iload_n 2, 1) := by decide +kernel
theorem dX5_has_15 : decode cX5_has 15 = .ok (.iaload, 1) := by decide +kernel
theorem dX5_has_16 : decode cX5_has 16 = .ok (.iload_n 1, 1) := by decide +kernel
theorem dX5_has_17 : decode cX5_has 17 = .ok (.if_icmp .ne 5, 3) := by decide +kernel
theorem dX5_has_20 : decode cX5_has 20 = .ok (.iconst 1, 1) := by decide +kernel
theorem dX5_has_21 : decode cX5_has 21 = .ok (.ireturn, 1) := by decide +kernel
theorem dX5_has_22 : decode cX5_has 22 = .ok (.iinc 2 1, 3) := by decide +kernel
theorem dX5_has_25 : decode cX5_has 25 = .ok (.goto (-23), 3) := by decide +kernel
theorem dX5_has_28 : decode cX5_has 28 = .ok (.iconst 0, 1) := by decide +kernel
theorem dX5_has_29 : decode cX5_has 29 = .ok (.ireturn, 1) := by decide +kernel
theorem dX5_take_0 : decode cX5_take 0 = .ok (.aload_n 0, 1) := by decide +kernel
theorem dX5_take_1 : decode cX5_take 1 = .ok (.iload_n 1, 1) := by decide +kernel
theorem dX5_take_2 : decode cX5_take 2 = .ok (.invokevirtual 28, 3) := by decide +kernel
theorem dX5_take_5 : decode cX5_take 5 = .ok (.istore_n 2, 1) := by decide +kernel
theorem dX5_take_6 : decode cX5_take 6 = .ok (.iload_n 2, 1) := by decide +kernel
theorem dX5_take_7 : decode cX5_take 7 = .ok (.iconst (-1), 1) := by decide +kernel
theorem dX5_take_8 : decode cX5_take 8 = .ok (.if_icmp .ne 18, 3) := by decide +kernel
theorem dX5_take_11 : decode cX5_take 11 = .ok (.aload_n 0, 1) := by decide +kernel
theorem dX5_take_12 : decode cX5_take 12 = .ok (.getfield 15, 3) := by decide +kernel
theorem dX5_take_15 : decode cX5_take 15 = .ok (.istore_n 2, 1) := by decide +kernel
theorem dX5_take_16 : decode cX5_take 16 = .ok (.aload_n 0, 1) := by decide +kernel
theorem dX5_take_17 : decode cX5_take 17 = .ok (.dup, 1) := by decide +kernel
theorem dX5_take_18 : decode cX5_take 18 = .ok (.getfield 15, 3) := by decide +kernel
theorem dX5_take_21 : decode cX5_take 21 = .ok (.iconst 1, 1) := by decide +kernel
theorem dX5_take_22 : decode cX5_take 22 = .ok (.iadd, 1) := by decide +kernel
theorem dX5_take_23 : decode cX5_take 23 = .ok (.putfield 15, 3) := by decide +kernel
theorem dX5_take_26 : decode cX5_take 26 = .ok (.aload_n 0, 1) := by decide +kernel
theorem dX5_take_27 : decode cX5_take 27 = .ok (.getfield 25, 3) := by decide +kernel
theorem dX5_take_30 : decode cX5_take 30 = .ok (.iload_n 2, 1) := by decide +kernel
theorem dX5_take_31 : decode cX5_take 31 = .ok (.iload_n 1, 1) := by decide +kernel
theorem dX5_take_32 : decode cX5_take 32 = .ok (.iastore, 1) := by decide +kernel
theorem dX5_take_33 : decode cX5_take 33 = .ok (.aload_n 0, 1) := by decide +kernel
theorem dX5_take_34 : decode cX5_take 34 = .ok (.getfield 18, 3) := by decide +kernel
theorem dX5_take_37 : decode cX5_take 37 = .ok (.aload_n 0, 1) := by decide +kernel
theorem dX5_take_38 : decode cX5_take 38 = .ok (.getfield 9, 3) := by decide +kernel
theorem dX5_take_41 : decode cX5_take 41 = .ok (.iload_n 1, 1) := by decide +kernel
theorem dX5_take_42 : decode cX5_take 42 = .ok (.iastore, 1) := by decide +kernel
theorem dX5_take_43 : decode cX5_take 43 = .ok (.aload_n 0, 1) := by decide +kernel
theorem dX5_take_44 : decode cX5_take 44 = .ok (.getfield 22, 3) := by decide +kernel
theorem dX5_take_47 : decode cX5_take 47 = .ok (.aload_n 0, 1) := by decide +kernel
theorem dX5_take_48 : decode cX5_take 48 = .ok (.getfield 9, 3) := by decide +kernel
theorem dX5_take_51 : decode cX5_take 51 = .ok (.iload_n 2, 1) := by decide +kernel
theorem dX5_take_52 : decode cX5_take 52 = .ok (.iastore, 1) := by decide +kernel
theorem dX5_take_53 : decode cX5_take 53 = .ok (.aload_n 0, 1) := by decide +kernel
theorem dX5_take_54 : decode cX5_take 54 = .ok (.dup, 1) := by decide +kernel
theorem dX5_take_55 : decode cX5_take 55 = .ok (.getfield 9, 3) := by decide +kernel
theorem dX5_take_58 : decode cX5_take 58 = .ok (.iconst 1, 1) := by decide +kernel
theorem dX5_take_59 : decode cX5_take 59 = .ok (.iadd, 1) := by decide +kernel
theorem dX5_take_60 : decode cX5_take 60 = .ok (.putfield 9, 3) := by decide +kernel
theorem dX5_take_63 : decode cX5_take 63 = .ok (.iload_n 2, 1) := by decide +kernel
theorem dX5_take_64 : decode cX5_take 64 = .ok (.ireturn, 1) := by decide +kernel
theorem dX5_placeFor_0 : decode cX5_placeFor 0 = .ok (.iconst (-1), 1) := by decide +kernel
theorem dX5_placeFor_1 : decode cX5_placeFor 1 = .ok (.istore_n 2, 1) := by decide +kernel
theorem dX5_placeFor_2 : decode cX5_placeFor 2 = .ok (.iconst 0, 1) := by decide +kernel
theorem dX5_placeFor_3 : decode cX5_placeFor 3 = .ok (.istore_n 3, 1) := by decide +kernel
theorem dX5_placeFor_4 : decode cX5_placeFor 4 = .ok (.iload_n 3, 1) := by decide +kernel
theorem dX5_placeFor_5 : decode cX5_placeFor 5 = .ok (.aload_n 0, 1) := by decide +kernel
theorem dX5_placeFor_6 : decode cX5_placeFor 6 = .ok (.getfield 15, 3) := by decide +kernel
theorem dX5_placeFor_9 : decode cX5_placeFor 9 = .ok (.if_icmp .ge 41, 3) := by decide +kernel
theorem dX5_placeFor_12 : decode cX5_placeFor 12 = .ok (.aload_n 0, 1) := by decide +kernel
theorem dX5_placeFor_13 : decode cX5_placeFor 13 = .ok (.getfield 25, 3) := by decide +kernel
theorem dX5_placeFor_16 : decode cX5_placeFor 16 = .ok (.iload_n 3, 1) := by decide +kernel
theorem dX5_placeFor_17 : decode cX5_placeFor 17 = .ok (.iaload, 1) := by decide +kernel
theorem dX5_placeFor_18 : decode cX5_placeFor 18 = .ok (.iload_n 1, 1) := by decide +kernel
theorem dX5_placeFor_19 : decode cX5_placeFor 19 = .ok (.if_icmp .le 25, 3) := by decide +kernel
theorem dX5_placeFor_22 : decode cX5_placeFor 22 = .ok (.iload_n 2, 1) := by decide +kernel
theorem dX5_placeFor_23 : decode cX5_placeFor 23 = .ok (.iconst (-1), 1) := by decide +kernel
theorem dX5_placeFor_24 : decode cX5_placeFor 24 = .ok (.if_icmp .eq 18, 3) := by decide +kernel
theorem dX5_placeFor_27 : decode cX5_placeFor 27 = .ok (.aload_n 0, 1) := by decide +kernel
theorem dX5_placeFor_28 : decode cX5_placeFor 28 = .ok (.getfield 25, 3) := by decide +kernel
theorem dX5_placeFor_31 : decode cX5_placeFor 31 = .ok (.iload_n 3, 1) := by decide +kernel
theorem dX5_placeFor_32 : decode cX5_placeFor 32 = .ok (.iaload, 1) := by decide +kernel
theorem dX5_placeFor_33 : decode cX5_placeFor 33 = .ok (.aload_n 0, 1) := by decide +kernel
theorem dX5_placeFor_34 : decode cX5_placeFor 34 = .ok (.getfield 25, 3) := by decide +kernel
theorem dX5_placeFor_37 : decode cX5_placeFor 37 = .ok (.iload_n 2, 1) := by decide +kernel
theorem dX5_placeFor_38 : decode cX5_placeFor 38 = .ok (.iaload, 1) := by decide +kernel
theorem dX5_placeFor_39 : decode cX5_placeFor 39 = .ok (.if_icmp .ge 5, 3) := by decide +kernel
theorem dX5_placeFor_42 : decode cX5_placeFor 42 = .ok (.iload_n 3, 1) := by decide +kernel
theorem dX5_placeFor_43 : decode cX5_placeFor 43 = .ok (.istore_n 2, 1) := by decide +kernel
theorem dX5_placeFor_44 : decode cX5_placeFor 44 = .ok (.iinc 3 1, 3) := by decide +kernel
theorem dX5_placeFor_47 : decode cX5_placeFor 47 = .ok (.goto (-43), 3) := by decide +kernel
theorem dX5_placeFor_50 : decode cX5_placeFor 50 = .ok (.iload_n 2, 1) := by decide +kernel
theorem dX5_placeFor_51 : decode cX5_placeFor 51 = .ok (.ireturn, 1) := by decide +kernel
theorem dX5_deadEndOf_0 : decode cX5_deadEndOf 0 = .ok (.iconst 0, 1) := by decide +kernel
theorem dX5_deadEndOf_1 : decode cX5_deadEndOf 1 = .ok (.istore_n 2, 1) := by decide +kernel
theorem dX5_deadEndOf_2 : decode cX5_deadEndOf 2 = .ok (.iload_n 2, 1) := by decide +kernel
theorem dX5_deadEndOf_3 : decode cX5_deadEndOf 3 = .ok (.aload_n 0, 1) := by decide +kernel
theorem dX5_deadEndOf_4 : decode cX5_deadEndOf 4 = .ok (.getfield 9, 3) := by decide +kernel
theorem dX5_deadEndOf_7 : decode cX5_deadEndOf 7 = .ok (.if_icmp .ge 30, 3) := by decide +kernel
theorem dX5_deadEndOf_10 : decode cX5_deadEndOf 10 = .ok (.aload_n 0, 1) := by decide +kernel
theorem dX5_deadEndOf_11 : decode cX5_deadEndOf 11 = .ok (.aload_n 0, 1) := by decide +kernel
theorem dX5_deadEndOf_12 : decode cX5_deadEndOf 12 = .ok (.getfield 18, 3) := by decide +kernel
theorem dX5_deadEndOf_15 : decode cX5_deadEndOf 15 = .ok (.iload_n 2, 1) := by decide +kernel
theorem dX5_deadEndOf_16 : decode cX5_deadEndOf 16 = .ok (.iaload, 1) := by decide +kernel
theorem dX5_deadEndOf_17 : decode cX5_deadEndOf 17 = .ok (.invokevirtual 32, 3) := by decide +kernel
theorem dX5_deadEndOf_20 : decode cX5_deadEndOf 20 = .ok (.iload_n 1, 1) := by decide +kernel
theorem dX5_deadEndOf_21 : decode cX5_deadEndOf 21 = .ok (.if_icmp .ne 10, 3) := by decide +kernel
theorem dX5_deadEndOf_24 : decode cX5_deadEndOf 24 = .ok (.aload_n 0, 1) := by decide +kernel
theorem dX5_deadEndOf_25 : decode cX5_deadEndOf 25 = .ok (.getfield 22, 3) := by decide +kernel
theorem dX5_deadEndOf_28 : decode cX5_deadEndOf 28 = .ok (.iload_n 2, 1) := by decide +kernel
theorem dX5_deadEndOf_29 : decode cX5_deadEndOf 29 = .ok (.iaload, 1) := by decide +kernel
theorem dX5_deadEndOf_30 : decode cX5_deadEndOf 30 = .ok (.ireturn, 1) := by decide +kernel
theorem dX5_deadEndOf_31 : decode cX5_deadEndOf 31 = .ok (.iinc 2 1, 3) := by decide +kernel
theorem dX5_deadEndOf_34 : decode cX5_deadEndOf 34 = .ok (.goto (-32), 3) := by decide +kernel
theorem dX5_deadEndOf_37 : decode cX5_deadEndOf 37 = .ok (.iconst (-1), 1) := by decide +kernel
theorem dX5_deadEndOf_38 : decode cX5_deadEndOf 38 = .ok (.ireturn, 1) := by decide +kernel
theorem dX5_trainsAheadOf_0 : decode cX5_trainsAheadOf 0 = .ok (.iconst 0, 1) := by decide +kernel
theorem dX5_trainsAheadOf_1 : decode cX5_trainsAheadOf 1 = .ok (.istore_n 2, 1) := by decide +kernel
theorem dX5_trainsAheadOf_2 : decode cX5_trainsAheadOf 2 = .ok (.iconst 0, 1) := by decide +kernel
theorem dX5_trainsAheadOf_3 : decode cX5_trainsAheadOf 3 = .ok (.istore_n 3, 1) := by decide +kernel
theorem dX5_trainsAheadOf_4 : decode cX5_trainsAheadOf 4 = .ok (.iload_n 3, 1) := by decide +kernel
theorem dX5_trainsAheadOf_5 : decode cX5_trainsAheadOf 5 = .ok (.aload_n 0, 1) := by decide +kernel
theorem dX5_trainsAheadOf_6 : decode cX5_trainsAheadOf 6 = .ok (.getfield 9, 3) := by decide +kernel
theorem dX5_trainsAheadOf_9 : decode cX5_trainsAheadOf 9 = .ok (.if_icmp .ge 22, 3) := by decide +kernel
theorem dX5_trainsAheadOf_12 : decode cX5_trainsAheadOf 12 = .ok (.aload_n 0, 1) := by decide +kernel
theorem dX5_trainsAheadOf_13 : decode cX5_trainsAheadOf 13 = .ok (.getfield 18, 3) := by decide +kernel
theorem dX5_trainsAheadOf_16 : decode cX5_trainsAheadOf 16 = .ok (.iload_n 3, 1) := by decide +kernel
theorem dX5_trainsAheadOf_17 : decode cX5_trainsAheadOf 17 = .ok (.iaload, 1) := by decide +kernel
theorem dX5_trainsAheadOf_18 : decode cX5_trainsAheadOf 18 = .ok (.iload_n 1, 1) := by decide +kernel
theorem dX5_trainsAheadOf_19 : decode cX5_trainsAheadOf 19 = .ok (.if_icmp .ge 6, 3) := by decide +kernel
theorem dX5_trainsAheadOf_22 : decode cX5_trainsAheadOf 22 = .ok (.iinc 2 1, 3) := by decide +kernel
theorem dX5_trainsAheadOf_25 : decode cX5_trainsAheadOf 25 = .ok (.iinc 3 1, 3) := by decide +kernel
theorem dX5_trainsAheadOf_28 : decode cX5_trainsAheadOf 28 = .ok (.goto (-24), 3) := by decide +kernel
theorem dX5_trainsAheadOf_31 : decode cX5_trainsAheadOf 31 = .ok (.iload_n 2, 1) := by decide +kernel
theorem dX5_trainsAheadOf_32 : decode cX5_trainsAheadOf 32 = .ok (.ireturn, 1) := by decide +kernel
