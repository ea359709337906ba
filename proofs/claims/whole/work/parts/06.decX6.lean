theorem dX6_init_0 : decode cX6_init 0 = .ok (.aload_n 0, 1) := by decide +kernel
theorem dX6_init_1 : decode cX6_init 1 = .ok (.invokespecial 1, 3) := by decide +kernel
theorem dX6_init_4 : decode cX6_init 4 = .ok (.aload_n 0, 1) := by decide +kernel
theorem dX6_init_5 : decode cX6_init 5 = .ok (.new 7, 3) := by decide +kernel
theorem dX6_init_8 : decode cX6_init 8 = .ok (.dup, 1) := by decide +kernel
theorem dX6_init_9 : decode cX6_init 9 = .ok (.invokespecial 9, 3) := by decide +kernel
theorem dX6_init_12 : decode cX6_init 12 = .ok (.putfield 10, 3) := by decide +kernel
theorem dX6_init_15 : decode cX6_init 15 = .ok (.aload_n 0, 1) := by decide +kernel
theorem dX6_init_16 : decode cX6_init 16 = .ok (.new 16, 3) := by decide +kernel
theorem dX6_init_19 : decode cX6_init 19 = .ok (.dup, 1) := by decide +kernel
theorem dX6_init_20 : decode cX6_init 20 = .ok (.invokespecial 18, 3) := by decide +kernel
theorem dX6_init_23 : decode cX6_init 23 = .ok (.putfield 19, 3) := by decide +kernel
theorem dX6_init_26 : decode cX6_init 26 = .ok (.aload_n 0, 1) := by decide +kernel
theorem dX6_init_27 : decode cX6_init 27 = .ok (.new 23, 3) := by decide +kernel
theorem dX6_init_30 : decode cX6_init 30 = .ok (.dup, 1) := by decide +kernel
theorem dX6_init_31 : decode cX6_init 31 = .ok (.invokespecial 25, 3) := by decide +kernel
theorem dX6_init_34 : decode cX6_init 34 = .ok (.putfield 26, 3) := by decide +kernel
theorem dX6_init_37 : decode cX6_init 37 = .ok (.aload_n 0, 1) := by decide +kernel
theorem dX6_init_38 : decode cX6_init 38 = .ok (.new 30, 3) := by decide +kernel
theorem dX6_init_41 : decode cX6_init 41 = .ok (.dup, 1) := by decide +kernel
theorem dX6_init_42 : decode cX6_init 42 = .ok (.invokespecial 32, 3) := by decide +kernel
theorem dX6_init_45 : decode cX6_init 45 = .ok (.putfield 33, 3) := by decide +kernel
theorem dX6_init_48 : decode cX6_init 48 = .ok (.aload_n 0, 1) := by decide +kernel
theorem dX6_init_49 : decode cX6_init 49 = .ok (.bipush 20, 2) := by decide +kernel
theorem dX6_init_51 : decode cX6_init 51 = .ok (.newarray .int, 2) := by decide +kernel
theorem dX6_init_53 : decode cX6_init 53 = .ok (.putfield 37, 3) := by decide +kernel
theorem dX6_init_56 : decode cX6_init 56 = .ok (.aload_n 0, 1) := by decide +kernel
theorem dX6_init_57 : decode cX6_init 57 = .ok (.iconst 0, 1) := by decide +kernel
theorem dX6_init_58 : decode cX6_init 58 = .ok (.putfield 41, 3) := by decide +kernel
theorem dX6_init_61 : decode cX6_init 61 = .ok (.aload_n 0, 1) := by decide +kernel
theorem dX6_init_62 : decode cX6_init 62 = .ok (.bipush 100, 2) := by decide +kernel
theorem dX6_init_64 : decode cX6_init 64 = .ok (.putfield 45, 3) := by decide +kernel
theorem dX6_init_67 : decode cX6_init 67 = .ok (.return_, 1) := by decide +kernel
theorem dX6_feed_0 : decode cX6_feed 0 = .ok (.aload_n 0, 1) := by decide +kernel
theorem dX6_feed_1 : decode cX6_feed 1 = .ok (.getfield 10, 3) := by decide +kernel
theorem dX6_feed_4 : decode cX6_feed 4 = .ok (.getfield 48, 3) := by decide +kernel
theorem dX6_feed_7 : decode cX6_feed 7 = .ok (.bipush 20, 2) := by decide +kernel
theorem dX6_feed_9 : decode cX6_feed 9 = .ok (.iadd, 1) := by decide +kernel
theorem dX6_feed_10 : decode cX6_feed 10 = .ok (.sipush 200, 3) := by decide +kernel
theorem dX6_feed_13 : decode cX6_feed 13 = .ok (.if_icmp .le 5, 3) := by decide +kernel
theorem dX6_feed_16 : decode cX6_feed 16 = .ok (.iconst (-1), 1) := by decide +kernel
theorem dX6_feed_17 : decode cX6_feed 17 = .ok (.ireturn, 1) := by decide +kernel
theorem dX6_feed_18 : decode cX6_feed 18 = .ok (.aload_n 0, 1) := by decide +kernel
theorem dX6_feed_19 : decode cX6_feed 19 = .ok (.getfield 10, 3) := by decide +kernel
theorem dX6_feed_22 : decode cX6_feed 22 = .ok (.iload_n 1, 1) := by decide +kernel
theorem dX6_feed_23 : decode cX6_feed 23 = .ok (.invokevirtual 51, 3) := by decide +kernel
theorem dX6_feed_26 : decode cX6_feed 26 = .ok (.aload_n 0, 1) := by decide +kernel
theorem dX6_feed_27 : decode cX6_feed 27 = .ok (.getfield 10, 3) := by decide +kernel
theorem dX6_feed_30 : decode cX6_feed 30 = .ok (.iload_n 2, 1) := by decide +kernel
theorem dX6_feed_31 : decode cX6_feed 31 = .ok (.invokevirtual 51, 3) := by decide +kernel
theorem dX6_feed_34 : decode cX6_feed 34 = .ok (.aload_n 0, 1) := by decide +kernel
theorem dX6_feed_35 : decode cX6_feed 35 = .ok (.getfield 10, 3) := by decide +kernel
theorem dX6_feed_38 : decode cX6_feed 38 = .ok (.iload_n 3, 1) := by decide +kernel
theorem dX6_feed_39 : decode cX6_feed 39 = .ok (.invokevirtual 51, 3) := by decide +kernel
theorem dX6_feed_42 : decode cX6_feed 42 = .ok (.aload_n 0, 1) := by decide +kernel
theorem dX6_feed_43 : decode cX6_feed 43 = .ok (.getfield 10, 3) := by decide +kernel
theorem dX6_feed_46 : decode cX6_feed 46 = .ok (.iload 4, 2) := by decide +kernel
theorem dX6_feed_48 : decode cX6_feed 48 = .ok (.invokevirtual 51, 3) := by decide +kernel
theorem dX6_feed_51 : decode cX6_feed 51 = .ok (.aload_n 0, 1) := by decide +kernel
theorem dX6_feed_52 : decode cX6_feed 52 = .ok (.getfield 10, 3) := by decide +kernel
theorem dX6_feed_55 : decode cX6_feed 55 = .ok (.iload 5, 2) := by decide +kernel
theorem dX6_feed_57 : decode cX6_feed 57 = .ok (.invokevirtual 51, 3) := by decide +kernel
theorem dX6_feed_60 : decode cX6_feed 60 = .ok (.aload_n 0, 1) := by decide +kernel
theorem dX6_feed_61 : decode cX6_feed 61 = .ok (.getfield 10, 3) := by decide +kernel
theorem dX6_feed_64 : decode cX6_feed 64 = .ok (.getfield 48, 3) := by decide +kernel
theorem dX6_feed_67 : decode cX6_feed 67 = .ok (.ireturn, 1) := by decide +kernel
theorem dX6_work_0 : decode cX6_work 0 = .ok (.iload_n 1, 1) := by decide +kernel
theorem dX6_work_1 : decode cX6_work 1 = .ok (.ifCond .lt 14, 3) := by decide +kernel
theorem dX6_work_4 : decode cX6_work 4 = .ok (.iload_n 1, 1) := by decide +kernel
theorem dX6_work_5 : decode cX6_work 5 = .ok (.aload_n 0, 1) := by decide +kernel
theorem dX6_work_6 : decode cX6_work 6 = .ok (.getfield 10, 3) := by decide +kernel
theorem dX6_work_9 : decode cX6_work 9 = .ok (.getfield 48, 3) := by decide +kernel
theorem dX6_work_12 : decode cX6_work 12 = .ok (.if_icmp .le 13, 3) := by decide +kernel
theorem dX6_work_15 : decode cX6_work 15 = .ok (.new 55, 3) := by decide +kernel
theorem dX6_work_18 : decode cX6_work 18 = .ok (.dup, 1) := by decide +kernel
theorem dX6_work_19 : decode cX6_work 19 = .ok (.ldc 57, 2) := by decide +kernel
theorem dX6_work_21 : decode cX6_work 21 = .ok (.invokespecial 59, 3) := by decide +kernel
theorem dX6_work_24 : decode cX6_work 24 = .ok (.athrow, 1) := by decide +kernel
theorem dX6_work_25 : decode cX6_work 25 = .ok (.aload_n 0, 1) := by decide +kernel
theorem dX6_work_26 : decode cX6_work 26 = .ok (.getfield 19, 3) := by decide +kernel
theorem dX6_work_29 : decode cX6_work 29 = .ok (.getfield 62, 3) := by decide +kernel
theorem dX6_work_32 : decode cX6_work 32 = .ok (.bipush 16, 2) := by decide +kernel
theorem dX6_work_34 : decode cX6_work 34 = .ok (.if_icmp .lt 13, 3) := by decide +kernel
theorem dX6_work_37 : decode cX6_work 37 = .ok (.new 65, 3) := by decide +kernel
theorem dX6_work_40 : decode cX6_work 40 = .ok (.dup, 1) := by decide +kernel
theorem dX6_work_41 : decode cX6_work 41 = .ok (.ldc 67, 2) := by decide +kernel
theorem dX6_work_43 : decode cX6_work 43 = .ok (.invokespecial 69, 3) := by decide +kernel
theorem dX6_work_46 : decode cX6_work 46 = .ok (.athrow, 1) := by decide +kernel
theorem dX6_work_47 : decode cX6_work 47 = .ok (.aload_n 0, 1) := by decide +kernel
theorem dX6_work_48 : decode cX6_work 48 = .ok (.getfield 10, 3) := by decide +kernel
theorem dX6_work_51 : decode cX6_work 51 = .ok (.iload_n 1, 1) := by decide +kernel
theorem dX6_work_52 : decode cX6_work 52 = .ok (.aload_n 0, 1) := by decide +kernel
theorem dX6_work_53 : decode cX6_work 53 = .ok (.getfield 19, 3) := by decide +kernel
theorem dX6_work_56 : decode cX6_work 56 = .ok (.getfield 62, 3) := by decide +kernel
theorem dX6_work_59 : decode cX6_work 59 = .ok (.invokevirtual 70, 3) := by decide +kernel
theorem dX6_work_62 : decode cX6_work 62 = .ok (.istore_n 2, 1) := by decide +kernel
theorem dX6_work_63 : decode cX6_work 63 = .ok (.iload_n 2, 1) := by decide +kernel
theorem dX6_work_64 : decode cX6_work 64 = .ok (.ifCond .ne 20, 3) := by decide +kernel
theorem dX6_work_67 : decode cX6_work 67 = .ok (.aload_n 0, 1) := by decide +kernel
theorem dX6_work_68 : decode cX6_work 68 = .ok (.getfield 19, 3) := by decide +kernel
theorem dX6_work_71 : decode cX6_work 71 = .ok (.aload_n 0, 1) := by decide +kernel
theorem dX6_work_72 : decode cX6_work 72 = .ok (.getfield 10, 3) := by decide +kernel
theorem dX6_work_75 : decode cX6_work 75 = .ok (.getfield 74, 3) := by decide +kernel
theorem dX6_work_78 : decode cX6_work 78 = .ok (.invokevirtual 78, 3) := by decide +kernel
theorem dX6_work_81 : decode cX6_work 81 = .ok (.goto 7, 3) := by decide +kernel
theorem dX6_work_84 : decode cX6_work 84 = .ok (.iload_n 2, 1) := by decide +kernel
theorem dX6_work_85 : decode cX6_work 85 = .ok (.bipush 10, 2) := by decide +kernel
theorem dX6_work_87 : decode cX6_work 87 = .ok (.isub, 1) := by decide +kernel
theorem dX6_work_88 : decode cX6_work 88 = .ok (.ireturn, 1) := by decide +kernel
theorem dX6_fault_0 : decode cX6_fault 0 = .ok (.aload_n 0, 1) := by decide +kernel
theorem dX6_fault_1 : decode cX6_fault 1 = .ok (.getfield 10, 3) := by decide +kernel
theorem dX6_fault_4 : decode cX6_fault 4 = .ok (.getfield 82, 3) := by decide +kernel
theorem dX6_fault_7 : decode cX6_fault 7 = .ok (.ireturn, 1) := by decide +kernel
theorem dX6_told_0 : decode cX6_told 0 = .ok (.aload_n 0, 1) := by decide +kernel
theorem dX6_told_1 : decode cX6_told 1 = .ok (.getfield 19, 3) := by decide +kernel
theorem dX6_told_4 : decode cX6_told 4 = .ok (.iload_n 1, 1) := by decide +kernel
theorem dX6_told_5 : decode cX6_told 5 = .ok (.invokevirtual 85, 3) := by decide +kernel
theorem dX6_told_8 : decode cX6_told 8 = .ok (.ifCond .ne 13, 3) := by decide +kernel
theorem dX6_told_11 : decode cX6_told 11 = .ok (.new 89, 3) := by decide +kernel
theorem dX6_told_14 : decode cX6_told 14 = .ok (.dup, 1) := by decide +kernel
theorem dX6_told_15 : decode cX6_told 15 = .ok (.ldc 91, 2) := by decide +kernel
theorem dX6_told_17 : decode cX6_told 17 = .ok (.invokespecial 93, 3) := by decide +kernel
theorem dX6_told_20 : decode cX6_told 20 = .ok (.athrow, 1) := by decide +kernel
theorem dX6_told_21 : decode cX6_told 21 = .ok (.aload_n 0, 1) := by decide +kernel
theorem dX6_told_22 : decode cX6_told 22 = .ok (.getfield 19, 3) := by decide +kernel
theorem dX6_told_25 : decode cX6_told 25 = .ok (.getfield 94, 3) := by decide +kernel
theorem dX6_told_28 : decode cX6_told 28 = .ok (.iload_n 1, 1) := by decide +kernel
theorem dX6_told_29 : decode cX6_told 29 = .ok (.aaload, 1) := by decide +kernel
theorem dX6_told_30 : decode cX6_told 30 = .ok (.astore_n 3, 1) := by decide +kernel
theorem dX6_told_31 : decode cX6_told 31 = .ok (.iload_n 2, 1) := by decide +kernel
theorem dX6_told_32 : decode cX6_told 32 = .ok (.tableswitch 70 0 5 #[40, 45, 50, 55, 60, 65], 40) := by decide +kernel
theorem dX6_told_72 : decode cX6_told 72 = .ok (.aload_n 3, 1) := by decide +kernel
theorem dX6_told_73 : decode cX6_told 73 = .ok (.getfield 98, 3) := by decide +kernel
theorem dX6_told_76 : decode cX6_told 76 = .ok (.ireturn, 1) := by decide +kernel
theorem dX6_told_77 : decode cX6_told 77 = .ok (.aload_n 3, 1) := by decide +kernel
theorem dX6_told_78 : decode cX6_told 78 = .ok (.getfield 103, 3) := by decide +kernel
theorem dX6_told_81 : decode cX6_told 81 = .ok (.ireturn, 1) := by decide +kernel
theorem dX6_told_82 : decode cX6_told 82 = .ok (.aload_n 3, 1) := by decide +kernel
theorem dX6_told_83 : decode cX6_told 83 = .ok (.getfield 106, 3) := by decide +kernel
theorem dX6_told_86 : decode cX6_told 86 = .ok (.ireturn, 1) := by decide +kernel
theorem dX6_told_87 : decode cX6_told 87 = .ok (.aload_n 3, 1) := by decide +kernel
theorem dX6_told_88 : decode cX6_told 88 = .ok (.getfield 109, 3) := by decide +kernel
theorem dX6_told_91 : decode cX6_told 91 = .ok (.ireturn, 1) := by decide +kernel
theorem dX6_told_92 : decode cX6_told 92 = .ok (.aload_n 3, 1) := by decide +kernel
theorem dX6_told_93 : decode cX6_told 93 = .ok (.getfield 112, 3) := by decide +kernel
theorem dX6_told_96 : decode cX6_told 96 = .ok (.ireturn, 1) := by decide +kernel
theorem dX6_told_97 : decode cX6_told 97 = .ok (.aload_n 3, 1) := by decide +kernel
theorem dX6_told_98 : decode cX6_told 98 = .ok (.getfield 115, 3) := by decide +kernel
theorem dX6_told_101 : decode cX6_told 101 = .ok (.ireturn, 1) := by decide +kernel
theorem dX6_told_102 : decode cX6_told 102 = .ok (.new 55, 3) := by decide +kernel
theorem dX6_told_105 : decode cX6_told 105 = .ok (.dup, 1) := by decide +kernel
theorem dX6_told_106 : decode cX6_told 106 = .ok (.ldc 118, 2) := by decide +kernel
theorem dX6_told_108 : decode cX6_told 108 = .ok (.invokespecial 59, 3) := by decide +kernel
theorem dX6_told_111 : decode cX6_told 111 = .ok (.athrow, 1) := by decide +kernel
theorem dX6_set_0 : decode cX6_set 0 = .ok (.iload_n 1, 1) := by decide +kernel
theorem dX6_set_1 : decode cX6_set 1 = .ok (.ifCond .ne 32, 3) := by decide +kernel
theorem dX6_set_4 : decode cX6_set 4 = .ok (.iload_n 2, 1) := by decide +kernel
theorem dX6_set_5 : decode cX6_set 5 = .ok (.iconst 1, 1) := by decide +kernel
theorem dX6_set_6 : decode cX6_set 6 = .ok (.if_icmp .lt 27, 3) := by decide +kernel
theorem dX6_set_9 : decode cX6_set 9 = .ok (.iload_n 2, 1) := by decide +kernel
theorem dX6_set_10 : decode cX6_set 10 = .ok (.bipush 60, 2) := by decide +kernel
theorem dX6_set_12 : decode cX6_set 12 = .ok (.if_icmp .gt 21, 3) := by decide +kernel
theorem dX6_set_15 : decode cX6_set 15 = .ok (.aload_n 0, 1) := by decide +kernel
theorem dX6_set_16 : decode cX6_set 16 = .ok (.getfield 19, 3) := by decide +kernel
theorem dX6_set_19 : decode cX6_set 19 = .ok (.getfield 120, 3) := by decide +kernel
theorem dX6_set_22 : decode cX6_set 22 = .ok (.istore_n 3, 1) := by decide +kernel
theorem dX6_set_23 : decode cX6_set 23 = .ok (.aload_n 0, 1) := by decide +kernel
theorem dX6_set_24 : decode cX6_set 24 = .ok (.getfield 19, 3) := by decide +kernel
theorem dX6_set_27 : decode cX6_set 27 = .ok (.iload_n 2, 1) := by decide +kernel
theorem dX6_set_28 : decode cX6_set 28 = .ok (.putfield 120, 3) := by decide +kernel
theorem dX6_set_31 : decode cX6_set 31 = .ok (.iload_n 3, 1) := by decide +kernel
theorem dX6_set_32 : decode cX6_set 32 = .ok (.ireturn, 1) := by decide +kernel
theorem dX6_set_33 : decode cX6_set 33 = .ok (.iload_n 1, 1) := by decide +kernel
theorem dX6_set_34 : decode cX6_set 34 = .ok (.iconst 1, 1) := by decide +kernel
theorem dX6_set_35 : decode cX6_set 35 = .ok (.if_icmp .ne 26, 3) := by decide +kernel
theorem dX6_set_38 : decode cX6_set 38 = .ok (.iload_n 2, 1) := by decide +kernel
theorem dX6_set_39 : decode cX6_set 39 = .ok (.ifCond .lt 22, 3) := by decide +kernel
theorem dX6_set_42 : decode cX6_set 42 = .ok (.iload_n 2, 1) := by decide +kernel
theorem dX6_set_43 : decode cX6_set 43 = .ok (.sipush 1000, 3) := by decide +kernel
theorem dX6_set_46 : decode cX6_set 46 = .ok (.if_icmp .gt 15, 3) := by decide +kernel
theorem dX6_set_49 : decode cX6_set 49 = .ok (.aload_n 0, 1) := by decide +kernel
theorem dX6_set_50 : decode cX6_set 50 = .ok (.getfield 45, 3) := by decide +kernel
theorem dX6_set_53 : decode cX6_set 53 = .ok (.istore_n 3, 1) := by decide +kernel
theorem dX6_set_54 : decode cX6_set 54 = .ok (.aload_n 0, 1) := by decide +kernel
theorem dX6_set_55 : decode cX6_set 55 = .ok (.iload_n 2, 1) := by decide +kernel
theorem dX6_set_56 : decode cX6_set 56 = .ok (.putfield 45, 3) := by decide +kernel
theorem dX6_set_59 : decode cX6_set 59 = .ok (.iload_n 3, 1) := by decide +kernel
theorem dX6_set_60 : decode cX6_set 60 = .ok (.ireturn, 1) := by decide +kernel
theorem dX6_set_61 : decode cX6_set 61 = .ok (.new 55, 3) := by decide +kernel
theorem dX6_set_64 : decode cX6_set 64 = .ok (.dup, 1) := by decide +kernel
theorem dX6_set_65 : decode cX6_set 65 = .ok (.ldc 123, 2) := by decide +kernel
theorem dX6_set_67 : decode cX6_set 67 = .ok (.invokespecial 59, 3) := by decide +kernel
theorem dX6_set_70 : decode cX6_set 70 = .ok (.athrow, 1) := by decide +kernel
theorem dX6_noise_0 : decode cX6_noise 0 = .ok (.aload_n 0, 1) := by decide +kernel
theorem dX6_noise_1 : decode cX6_noise 1 = .ok (.getfield 41, 3) := by decide +kernel
theorem dX6_noise_4 : decode cX6_noise 4 = .ok (.bipush 20, 2) := by decide +kernel
theorem dX6_noise_6 : decode cX6_noise 6 = .ok (.if_icmp .lt 5, 3) := by decide +kernel
theorem dX6_noise_9 : decode cX6_noise 9 = .ok (.iconst (-1), 1) := by decide +kernel
theorem dX6_noise_10 : decode cX6_noise 10 = .ok (.ireturn, 1) := by decide +kernel
theorem dX6_noise_11 : decode cX6_noise 11 = .ok (.aload_n 0, 1) := by decide +kernel
theorem dX6_noise_12 : decode cX6_noise 12 = .ok (.getfield 37, 3) := by decide +kernel
theorem dX6_noise_15 : decode cX6_noise 15 = .ok (.aload_n 0, 1) := by decide +kernel
theorem dX6_noise_16 : decode cX6_noise 16 = .ok (.getfield 41, 3) := by decide +kernel
theorem dX6_noise_19 : decode cX6_noise 19 = .ok (.iload_n 1, 1) := by decide +kernel
theorem dX6_noise_20 : decode cX6_noise 20 = .ok (.iastore, 1) := by decide +kernel
theorem dX6_noise_21 : decode cX6_noise 21 = .ok (.aload_n 0, 1) := by decide +kernel
theorem dX6_noise_22 : decode cX6_noise 22 = .ok (.dup, 1) := by decide +kernel
theorem dX6_noise_23 : decode cX6_noise 23 = .ok (.getfield 41, 3) := by decide +kernel
theorem dX6_noise_26 : decode cX6_noise 26 = .ok (.iconst 1, 1) := by decide +kernel
theorem dX6_noise_27 : decode cX6_noise 27 = .ok (.iadd, 1) := by decide +kernel
theorem dX6_noise_28 : decode cX6_noise 28 = .ok (.putfield 41, 3) := by decide +kernel
theorem dX6_noise_31 : decode cX6_noise 31 = .ok (.aload_n 0, 1) := by decide +kernel
theorem dX6_noise_32 : decode cX6_noise 32 = .ok (.getfield 41, 3) := by decide +kernel
theorem dX6_noise_35 : decode cX6_noise 35 = .ok (.ireturn, 1) := by decide +kernel
theorem dX6_draw_0 : decode cX6_draw 0 = .ok (.aload_n 0, 1) := by decide +kernel
theorem dX6_draw_1 : decode cX6_draw 1 = .ok (.getfield 19, 3) := by decide +kernel
theorem dX6_draw_4 : decode cX6_draw 4 = .ok (.getfield 125, 3) := by decide +kernel
theorem dX6_draw_7 : decode cX6_draw 7 = .ok (.bipush 20, 2) := by decide +kernel
theorem dX6_draw_9 : decode cX6_draw 9 = .ok (.if_icmp .lt 5, 3) := by decide +kernel
theorem dX6_draw_12 : decode cX6_draw 12 = .ok (.iconst (-1), 1) := by decide +kernel
theorem dX6_draw_13 : decode cX6_draw 13 = .ok (.ireturn, 1) := by decide +kernel
theorem dX6_draw_14 : decode cX6_draw 14 = .ok (.aload_n 0, 1) := by decide +kernel
theorem dX6_draw_15 : decode cX6_draw 15 = .ok (.getfield 41, 3) := by decide +kernel
theorem dX6_draw_18 : decode cX6_draw 18 = .ok (.aload_n 0, 1) := by decide +kernel
theorem dX6_draw_19 : decode cX6_draw 19 = .ok (.getfield 19, 3) := by decide +kernel
theorem dX6_draw_22 : decode cX6_draw 22 = .ok (.getfield 62, 3) := by decide +kernel
theorem dX6_draw_25 : decode cX6_draw 25 = .ok (.if_icmp .ge 6, 3) := by decide +kernel
theorem dX6_draw_28 : decode cX6_draw 28 = .ok (.bipush (-2), 2) := by decide +kernel
theorem dX6_draw_30 : decode cX6_draw 30 = .ok (.ireturn, 1) := by decide +kernel
theorem dX6_draw_31 : decode cX6_draw 31 = .ok (.aload_n 0, 1) := by decide +kernel
theorem dX6_draw_32 : decode cX6_draw 32 = .ok (.iconst 0, 1) := by decide +kernel
theorem dX6_draw_33 : decode cX6_draw 33 = .ok (.putfield 41, 3) := by decide +kernel
theorem dX6_draw_36 : decode cX6_draw 36 = .ok (.aload_n 0, 1) := by decide +kernel
theorem dX6_draw_37 : decode cX6_draw 37 = .ok (.getfield 19, 3) := by decide +kernel
theorem dX6_draw_40 : decode cX6_draw 40 = .ok (.aload_n 0, 1) := by decide +kernel
theorem dX6_draw_41 : decode cX6_draw 41 = .ok (.getfield 37, 3) := by decide +kernel
theorem dX6_draw_44 : decode cX6_draw 44 = .ok (.invokevirtual 128, 3) := by decide +kernel
theorem dX6_draw_47 : decode cX6_draw 47 = .ok (.ireturn, 1) := by decide +kernel
theorem dX6_hours_0 : decode cX6_hours 0 = .ok (.aload_n 0, 1) := by decide +kernel
theorem dX6_hours_1 : decode cX6_hours 1 = .ok (.getfield 19, 3) := by decide +kernel
theorem dX6_hours_4 : decode cX6_hours 4 = .ok (.iload_n 2, 1) := by decide +kernel
theorem dX6_hours_5 : decode cX6_hours 5 = .ok (.invokevirtual 85, 3) := by decide +kernel
theorem dX6_hours_8 : decode cX6_hours 8 = .ok (.ifCond .ne 13, 3) := by decide +kernel
theorem dX6_hours_11 : decode cX6_hours 11 = .ok (.new 89, 3) := by decide +kernel
theorem dX6_hours_14 : decode cX6_hours 14 = .ok (.dup, 1) := by decide +kernel
theorem dX6_hours_15 : decode cX6_hours 15 = .ok (.ldc 91, 2) := by decide +kernel
theorem dX6_hours_17 : decode cX6_hours 17 = .ok (.invokespecial 93, 3) := by decide +kernel
theorem dX6_hours_20 : decode cX6_hours 20 = .ok (.athrow, 1) := by decide +kernel
theorem dX6_hours_21 : decode cX6_hours 21 = .ok (.aload_n 0, 1) := by decide +kernel
theorem dX6_hours_22 : decode cX6_hours 22 = .ok (.getfield 19, 3) := by decide +kernel
theorem dX6_hours_25 : decode cX6_hours 25 = .ok (.iload_n 1, 1) := by decide +kernel
theorem dX6_hours_26 : decode cX6_hours 26 = .ok (.invokevirtual 132, 3) := by decide +kernel
theorem dX6_hours_29 : decode cX6_hours 29 = .ok (.ifCond .ne 13, 3) := by decide +kernel
theorem dX6_hours_32 : decode cX6_hours 32 = .ok (.new 55, 3) := by decide +kernel
theorem dX6_hours_35 : decode cX6_hours 35 = .ok (.dup, 1) := by decide +kernel
theorem dX6_hours_36 : decode cX6_hours 36 = .ok (.ldc 135, 2) := by decide +kernel
theorem dX6_hours_38 : decode cX6_hours 38 = .ok (.invokespecial 59, 3) := by decide +kernel
theorem dX6_hours_41 : decode cX6_hours 41 = .ok (.athrow, 1) := by decide +kernel
theorem dX6_hours_42 : decode cX6_hours 42 = .ok (.aload_n 0, 1) := by decide +kernel
theorem dX6_hours_43 : decode cX6_hours 43 = .ok (.getfield 19, 3) := by decide +kernel
theorem dX6_hours_46 : decode cX6_hours 46 = .ok (.getfield 137, 3) := by decide +kernel
theorem dX6_hours_49 : decode cX6_hours 49 = .ok (.iload_n 1, 1) := by decide +kernel
theorem dX6_hours_50 : decode cX6_hours 50 = .ok (.aaload, 1) := by decide +kernel
theorem dX6_hours_51 : decode cX6_hours 51 = .ok (.getfield 141, 3) := by decide +kernel
theorem dX6_hours_54 : decode cX6_hours 54 = .ok (.iload_n 2, 1) := by decide +kernel
theorem dX6_hours_55 : decode cX6_hours 55 = .ok (.iaload, 1) := by decide +kernel
theorem dX6_hours_56 : decode cX6_hours 56 = .ok (.ireturn, 1) := by decide +kernel
theorem dX6_end_0 : decode cX6_end 0 = .ok (.aload_n 0, 1) := by decide +kernel
theorem dX6_end_1 : decode cX6_end 1 = .ok (.getfield 19, 3) := by decide +kernel
theorem dX6_end_4 : decode cX6_end 4 = .ok (.iload_n 1, 1) := by decide +kernel
theorem dX6_end_5 : decode cX6_end 5 = .ok (.invokevirtual 132, 3) := by decide +kernel
theorem dX6_end_8 : decode cX6_end 8 = .ok (.ifCond .ne 13, 3) := by decide +kernel
theorem dX6_end_11 : decode cX6_end 11 = .ok (.new 55, 3) := by decide +kernel
theorem dX6_end_14 : decode cX6_end 14 = .ok (.dup, 1) := by decide +kernel
theorem dX6_end_15 : decode cX6_end 15 = .ok (.ldc 135, 2) := by decide +kernel
theorem dX6_end_17 : decode cX6_end 17 = .ok (.invokespecial 59, 3) := by decide +kernel
theorem dX6_end_20 : decode cX6_end 20 = .ok (.athrow, 1) := by decide +kernel
theorem dX6_end_21 : decode cX6_end 21 = .ok (.aload_n 0, 1) := by decide +kernel
theorem dX6_end_22 : decode cX6_end 22 = .ok (.getfield 19, 3) := by decide +kernel
theorem dX6_end_25 : decode cX6_end 25 = .ok (.iload_n 1, 1) := by decide +kernel
theorem dX6_end_26 : decode cX6_end 26 = .ok (.aload_n 0, 1) := by decide +kernel
theorem dX6_end_27 : decode cX6_end 27 = .ok (.getfield 19, 3) := by decide +kernel
theorem dX6_end_30 : decode cX6_end 30 = .ok (.getfield 146, 3) := by decide +kernel
theorem dX6_end_33 : decode cX6_end 33 = .ok (.invokevirtual 149, 3) := by decide +kernel
theorem dX6_end_36 : decode cX6_end 36 = .ok (.ireturn, 1) := by decide +kernel
theorem dX6_begins_0 : decode cX6_begins 0 = .ok (.aload_n 0, 1) := by decide +kernel
theorem dX6_begins_1 : decode cX6_begins 1 = .ok (.getfield 19, 3) := by decide +kernel
theorem dX6_begins_4 : decode cX6_begins 4 = .ok (.iload_n 2, 1) := by decide +kernel
theorem dX6_begins_5 : decode cX6_begins 5 = .ok (.invokevirtual 85, 3) := by decide +kernel
theorem dX6_begins_8 : decode cX6_begins 8 = .ok (.ifCond .ne 13, 3) := by decide +kernel
theorem dX6_begins_11 : decode cX6_begins 11 = .ok (.new 89, 3) := by decide +kernel
theorem dX6_begins_14 : decode cX6_begins 14 = .ok (.dup, 1) := by decide +kernel
theorem dX6_begins_15 : decode cX6_begins 15 = .ok (.ldc 91, 2) := by decide +kernel
theorem dX6_begins_17 : decode cX6_begins 17 = .ok (.invokespecial 93, 3) := by decide +kernel
theorem dX6_begins_20 : decode cX6_begins 20 = .ok (.athrow, 1) := by decide +kernel
theorem dX6_begins_21 : decode cX6_begins 21 = .ok (.aload_n 0, 1) := by decide +kernel
theorem dX6_begins_22 : decode cX6_begins 22 = .ok (.getfield 19, 3) := by decide +kernel
theorem dX6_begins_25 : decode cX6_begins 25 = .ok (.iload_n 1, 1) := by decide +kernel
theorem dX6_begins_26 : decode cX6_begins 26 = .ok (.invokevirtual 132, 3) := by decide +kernel
theorem dX6_begins_29 : decode cX6_begins 29 = .ok (.ifCond .ne 13, 3) := by decide +kernel
theorem dX6_begins_32 : decode cX6_begins 32 = .ok (.new 55, 3) := by decide +kernel
theorem dX6_begins_35 : decode cX6_begins 35 = .ok (.dup, 1) := by decide +kernel
theorem dX6_begins_36 : decode cX6_begins 36 = .ok (.ldc 135, 2) := by decide +kernel
theorem dX6_begins_38 : decode cX6_begins 38 = .ok (.invokespecial 59, 3) := by decide +kernel
theorem dX6_begins_41 : decode cX6_begins 41 = .ok (.athrow, 1) := by decide +kernel
theorem dX6_begins_42 : decode cX6_begins 42 = .ok (.aload_n 0, 1) := by decide +kernel
theorem dX6_begins_43 : decode cX6_begins 43 = .ok (.getfield 19, 3) := by decide +kernel
theorem dX6_begins_46 : decode cX6_begins 46 = .ok (.iload_n 1, 1) := by decide +kernel
theorem dX6_begins_47 : decode cX6_begins 47 = .ok (.aload_n 0, 1) := by decide +kernel
theorem dX6_begins_48 : decode cX6_begins 48 = .ok (.getfield 19, 3) := by decide +kernel
theorem dX6_begins_51 : decode cX6_begins 51 = .ok (.getfield 146, 3) := by decide +kernel
theorem dX6_begins_54 : decode cX6_begins 54 = .ok (.invokevirtual 149, 3) := by decide +kernel
theorem dX6_begins_57 : decode cX6_begins 57 = .ok (.pop, 1) := by decide +kernel
theorem dX6_begins_58 : decode cX6_begins 58 = .ok (.aload_n 0, 1) := by decide +kernel
theorem dX6_begins_59 : decode cX6_begins 59 = .ok (.getfield 19, 3) := by decide +kernel
theorem dX6_begins_62 : decode cX6_begins 62 = .ok (.getfield 137, 3) := by decide +kernel
theorem dX6_begins_65 : decode cX6_begins 65 = .ok (.iload_n 1, 1) := by decide +kernel
theorem dX6_begins_66 : decode cX6_begins 66 = .ok (.aaload, 1) := by decide +kernel
theorem dX6_begins_67 : decode cX6_begins 67 = .ok (.getfield 153, 3) := by decide +kernel
theorem dX6_begins_70 : decode cX6_begins 70 = .ok (.iload_n 2, 1) := by decide +kernel
theorem dX6_begins_71 : decode cX6_begins 71 = .ok (.iaload, 1) := by decide +kernel
theorem dX6_begins_72 : decode cX6_begins 72 = .ok (.ireturn, 1) := by decide +kernel
theorem dX6_best_0 : decode cX6_best 0 = .ok (.aload_n 0, 1) := by decide +kernel
theorem dX6_best_1 : decode cX6_best 1 = .ok (.getfield 19, 3) := by decide +kernel
theorem dX6_best_4 : decode cX6_best 4 = .ok (.getfield 62, 3) := by decide +kernel
theorem dX6_best_7 : decode cX6_best 7 = .ok (.bipush 7, 2) := by decide +kernel
theorem dX6_best_9 : decode cX6_best 9 = .ok (.if_icmp .gt 22, 3) := by decide +kernel
theorem dX6_best_12 : decode cX6_best 12 = .ok (.aload_n 0, 1) := by decide +kernel
theorem dX6_best_13 : decode cX6_best 13 = .ok (.getfield 19, 3) := by decide +kernel
theorem dX6_best_16 : decode cX6_best 16 = .ok (.iconst 1, 1) := by decide +kernel
theorem dX6_best_17 : decode cX6_best 17 = .ok (.aload_n 0, 1) := by decide +kernel
theorem dX6_best_18 : decode cX6_best 18 = .ok (.getfield 19, 3) := by decide +kernel
theorem dX6_best_21 : decode cX6_best 21 = .ok (.getfield 146, 3) := by decide +kernel
theorem dX6_best_24 : decode cX6_best 24 = .ok (.invokevirtual 149, 3) := by decide +kernel
theorem dX6_best_27 : decode cX6_best 27 = .ok (.iconst (-1), 1) := by decide +kernel
theorem dX6_best_28 : decode cX6_best 28 = .ok (.if_icmp .ne 5, 3) := by decide +kernel
theorem dX6_best_31 : decode cX6_best 31 = .ok (.iconst (-1), 1) := by decide +kernel
theorem dX6_best_32 : decode cX6_best 32 = .ok (.ireturn, 1) := by decide +kernel
theorem dX6_best_33 : decode cX6_best 33 = .ok (.aload_n 0, 1) := by decide +kernel
theorem dX6_best_34 : decode cX6_best 34 = .ok (.getfield 26, 3) := by decide +kernel
theorem dX6_best_37 : decode cX6_best 37 = .ok (.aload_n 0, 1) := by decide +kernel
theorem dX6_best_38 : decode cX6_best 38 = .ok (.getfield 19, 3) := by decide +kernel
theorem dX6_best_41 : decode cX6_best 41 = .ok (.invokevirtual 156, 3) := by decide +kernel
theorem dX6_best_44 : decode cX6_best 44 = .ok (.aload_n 0, 1) := by decide +kernel
theorem dX6_best_45 : decode cX6_best 45 = .ok (.getfield 26, 3) := by decide +kernel
theorem dX6_best_48 : decode cX6_best 48 = .ok (.getfield 160, 3) := by decide +kernel
theorem dX6_best_51 : decode cX6_best 51 = .ok (.iconst 0, 1) := by decide +kernel
theorem dX6_best_52 : decode cX6_best 52 = .ok (.aload_n 0, 1) := by decide +kernel
theorem dX6_best_53 : decode cX6_best 53 = .ok (.getfield 19, 3) := by decide +kernel
theorem dX6_best_56 : decode cX6_best 56 = .ok (.getfield 146, 3) := by decide +kernel
theorem dX6_best_59 : decode cX6_best 59 = .ok (.iconst 0, 1) := by decide +kernel
theorem dX6_best_60 : decode cX6_best 60 = .ok (.aload_n 0, 1) := by decide +kernel
theorem dX6_best_61 : decode cX6_best 61 = .ok (.getfield 19, 3) := by decide +kernel
theorem dX6_best_64 : decode cX6_best 64 = .ok (.getfield 62, 3) := by decide +kernel
theorem dX6_best_67 : decode cX6_best 67 = .ok (.invokestatic 163, 3) := by decide +kernel
theorem dX6_best_70 : decode cX6_best 70 = .ok (.aload_n 0, 1) := by decide +kernel
theorem dX6_best_71 : decode cX6_best 71 = .ok (.getfield 26, 3) := by decide +kernel
theorem dX6_best_74 : decode cX6_best 74 = .ok (.getfield 169, 3) := by decide +kernel
theorem dX6_best_77 : decode cX6_best 77 = .ok (.ireturn, 1) := by decide +kernel
theorem dX6_order_0 : decode cX6_order 0 = .ok (.iload_n 1, 1) := by decide +kernel
theorem dX6_order_1 : decode cX6_order 1 = .ok (.ifCond .lt 26, 3) := by decide +kernel
theorem dX6_order_4 : decode cX6_order 4 = .ok (.iload_n 1, 1) := by decide +kernel
theorem dX6_order_5 : decode cX6_order 5 = .ok (.aload_n 0, 1) := by decide +kernel
theorem dX6_order_6 : decode cX6_order 6 = .ok (.getfield 19, 3) := by decide +kernel
theorem dX6_order_9 : decode cX6_order 9 = .ok (.getfield 62, 3) := by decide +kernel
theorem dX6_order_12 : decode cX6_order 12 = .ok (.if_icmp .ge 15, 3) := by decide +kernel
theorem dX6_order_15 : decode cX6_order 15 = .ok (.aload_n 0, 1) := by decide +kernel
theorem dX6_order_16 : decode cX6_order 16 = .ok (.getfield 19, 3) := by decide +kernel
theorem dX6_order_19 : decode cX6_order 19 = .ok (.getfield 146, 3) := by decide +kernel
theorem dX6_order_22 : decode cX6_order 22 = .ok (.iload_n 1, 1) := by decide +kernel
theorem dX6_order_23 : decode cX6_order 23 = .ok (.iaload, 1) := by decide +kernel
theorem dX6_order_24 : decode cX6_order 24 = .ok (.goto 4, 3) := by decide +kernel
theorem dX6_order_27 : decode cX6_order 27 = .ok (.iconst (-1), 1) := by decide +kernel
theorem dX6_order_28 : decode cX6_order 28 = .ok (.ireturn, 1) := by decide +kernel
theorem dX6_move_0 : decode cX6_move 0 = .ok (.aload_n 0, 1) := by decide +kernel
theorem dX6_move_1 : decode cX6_move 1 = .ok (.getfield 19, 3) := by decide +kernel
theorem dX6_move_4 : decode cX6_move 4 = .ok (.iload_n 1, 1) := by decide +kernel
theorem dX6_move_5 : decode cX6_move 5 = .ok (.invokevirtual 85, 3) := by decide +kernel
theorem dX6_move_8 : decode cX6_move 8 = .ok (.ifCond .ne 13, 3) := by decide +kernel
theorem dX6_move_11 : decode cX6_move 11 = .ok (.new 89, 3) := by decide +kernel
theorem dX6_move_14 : decode cX6_move 14 = .ok (.dup, 1) := by decide +kernel
theorem dX6_move_15 : decode cX6_move 15 = .ok (.ldc 91, 2) := by decide +kernel
theorem dX6_move_17 : decode cX6_move 17 = .ok (.invokespecial 93, 3) := by decide +kernel
theorem dX6_move_20 : decode cX6_move 20 = .ok (.athrow, 1) := by decide +kernel
theorem dX6_move_21 : decode cX6_move 21 = .ok (.iload_n 2, 1) := by decide +kernel
theorem dX6_move_22 : decode cX6_move 22 = .ok (.ifCond .lt 14, 3) := by decide +kernel
theorem dX6_move_25 : decode cX6_move 25 = .ok (.iload_n 2, 1) := by decide +kernel
theorem dX6_move_26 : decode cX6_move 26 = .ok (.aload_n 0, 1) := by decide +kernel
theorem dX6_move_27 : decode cX6_move 27 = .ok (.getfield 19, 3) := by decide +kernel
theorem dX6_move_30 : decode cX6_move 30 = .ok (.getfield 62, 3) := by decide +kernel
theorem dX6_move_33 : decode cX6_move 33 = .ok (.if_icmp .lt 13, 3) := by decide +kernel
theorem dX6_move_36 : decode cX6_move 36 = .ok (.new 55, 3) := by decide +kernel
theorem dX6_move_39 : decode cX6_move 39 = .ok (.dup, 1) := by decide +kernel
theorem dX6_move_40 : decode cX6_move 40 = .ok (.ldc 172, 2) := by decide +kernel
theorem dX6_move_42 : decode cX6_move 42 = .ok (.invokespecial 59, 3) := by decide +kernel
theorem dX6_move_45 : decode cX6_move 45 = .ok (.athrow, 1) := by decide +kernel
theorem dX6_move_46 : decode cX6_move 46 = .ok (.aload_n 0, 1) := by decide +kernel
theorem dX6_move_47 : decode cX6_move 47 = .ok (.getfield 19, 3) := by decide +kernel
theorem dX6_move_50 : decode cX6_move 50 = .ok (.iload_n 1, 1) := by decide +kernel
theorem dX6_move_51 : decode cX6_move 51 = .ok (.iload_n 2, 1) := by decide +kernel
theorem dX6_move_52 : decode cX6_move 52 = .ok (.invokevirtual 174, 3) := by decide +kernel
theorem dX6_move_55 : decode cX6_move 55 = .ok (.ireturn, 1) := by decide +kernel
theorem dX6_part_0 : decode cX6_part 0 = .ok (.aload_n 0, 1) := by decide +kernel
theorem dX6_part_1 : decode cX6_part 1 = .ok (.getfield 19, 3) := by decide +kernel
theorem dX6_part_4 : decode cX6_part 4 = .ok (.invokevirtual 177, 3) := by decide +kernel
theorem dX6_part_7 : decode cX6_part 7 = .ok (.aload_n 0, 1) := by decide +kernel
theorem dX6_part_8 : decode cX6_part 8 = .ok (.getfield 19, 3) := by decide +kernel
theorem dX6_part_11 : decode cX6_part 11 = .ok (.aload_n 0, 1) := by decide +kernel
theorem dX6_part_12 : decode cX6_part 12 = .ok (.getfield 45, 3) := by decide +kernel
theorem dX6_part_15 : decode cX6_part 15 = .ok (.invokevirtual 180, 3) := by decide +kernel
theorem dX6_part_18 : decode cX6_part 18 = .ok (.ireturn, 1) := by decide +kernel
theorem dX6_on_0 : decode cX6_on 0 = .ok (.aload_n 0, 1) := by decide +kernel
theorem dX6_on_1 : decode cX6_on 1 = .ok (.getfield 19, 3) := by decide +kernel
theorem dX6_on_4 : decode cX6_on 4 = .ok (.invokevirtual 177, 3) := by decide +kernel
theorem dX6_on_7 : decode cX6_on 7 = .ok (.aload_n 0, 1) := by decide +kernel
theorem dX6_on_8 : decode cX6_on 8 = .ok (.getfield 19, 3) := by decide +kernel
theorem dX6_on_11 : decode cX6_on 11 = .ok (.aload_n 0, 1) := by decide +kernel
theorem dX6_on_12 : decode cX6_on 12 = .ok (.getfield 45, 3) := by decide +kernel
theorem dX6_on_15 : decode cX6_on 15 = .ok (.invokevirtual 184, 3) := by decide +kernel
theorem dX6_on_18 : decode cX6_on 18 = .ok (.ireturn, 1) := by decide +kernel
theorem dX6_off_0 : decode cX6_off 0 = .ok (.iload_n 1, 1) := by decide +kernel
theorem dX6_off_1 : decode cX6_off 1 = .ok (.ifCond .lt 10, 3) := by decide +kernel
theorem dX6_off_4 : decode cX6_off 4 = .ok (.iload_n 1, 1) := by decide +kernel
theorem dX6_off_5 : decode cX6_off 5 = .ok (.sipush 1000, 3) := by decide +kernel
theorem dX6_off_8 : decode cX6_off 8 = .ok (.if_icmp .le 13, 3) := by decide +kernel
theorem dX6_off_11 : decode cX6_off 11 = .ok (.new 55, 3) := by decide +kernel
theorem dX6_off_14 : decode cX6_off 14 = .ok (.dup, 1) := by decide +kernel
theorem dX6_off_15 : decode cX6_off 15 = .ok (.ldc 187, 2) := by decide +kernel
theorem dX6_off_17 : decode cX6_off 17 = .ok (.invokespecial 59, 3) := by decide +kernel
theorem dX6_off_20 : decode cX6_off 20 = .ok (.athrow, 1) := by decide +kernel
theorem dX6_off_21 : decode cX6_off 21 = .ok (.aload_n 0, 1) := by decide +kernel
theorem dX6_off_22 : decode cX6_off 22 = .ok (.getfield 19, 3) := by decide +kernel
theorem dX6_off_25 : decode cX6_off 25 = .ok (.invokevirtual 177, 3) := by decide +kernel
theorem dX6_off_28 : decode cX6_off 28 = .ok (.aload_n 0, 1) := by decide +kernel
theorem dX6_off_29 : decode cX6_off 29 = .ok (.getfield 19, 3) := by decide +kernel
theorem dX6_off_32 : decode cX6_off 32 = .ok (.iload_n 1, 1) := by decide +kernel
theorem dX6_off_33 : decode cX6_off 33 = .ok (.aload_n 0, 1) := by decide +kernel
theorem dX6_off_34 : decode cX6_off 34 = .ok (.getfield 45, 3) := by decide +kernel
theorem dX6_off_37 : decode cX6_off 37 = .ok (.invokevirtual 189, 3) := by decide +kernel
theorem dX6_off_40 : decode cX6_off 40 = .ok (.ireturn, 1) := by decide +kernel
theorem dX6_last_0 : decode cX6_last 0 = .ok (.aload_n 0, 1) := by decide +kernel
theorem dX6_last_1 : decode cX6_last 1 = .ok (.getfield 19, 3) := by decide +kernel
theorem dX6_last_4 : decode cX6_last 4 = .ok (.getfield 125, 3) := by decide +kernel
theorem dX6_last_7 : decode cX6_last 7 = .ok (.ifCond .ne 5, 3) := by decide +kernel
theorem dX6_last_10 : decode cX6_last 10 = .ok (.iconst (-1), 1) := by decide +kernel
theorem dX6_last_11 : decode cX6_last 11 = .ok (.ireturn, 1) := by decide +kernel
theorem dX6_last_12 : decode cX6_last 12 = .ok (.aload_n 0, 1) := by decide +kernel
theorem dX6_last_13 : decode cX6_last 13 = .ok (.getfield 19, 3) := by decide +kernel
theorem dX6_last_16 : decode cX6_last 16 = .ok (.invokevirtual 177, 3) := by decide +kernel
theorem dX6_last_19 : decode cX6_last 19 = .ok (.aload_n 0, 1) := by decide +kernel
theorem dX6_last_20 : decode cX6_last 20 = .ok (.getfield 19, 3) := by decide +kernel
theorem dX6_last_23 : decode cX6_last 23 = .ok (.aload_n 0, 1) := by decide +kernel
theorem dX6_last_24 : decode cX6_last 24 = .ok (.getfield 45, 3) := by decide +kernel
theorem dX6_last_27 : decode cX6_last 27 = .ok (.invokevirtual 184, 3) := by decide +kernel
theorem dX6_last_30 : decode cX6_last 30 = .ok (.istore_n 1, 1) := by decide +kernel
theorem dX6_last_31 : decode cX6_last 31 = .ok (.iconst 0, 1) := by decide +kernel
theorem dX6_last_32 : decode cX6_last 32 = .ok (.istore_n 2, 1) := by decide +kernel
theorem dX6_last_33 : decode cX6_last 33 = .ok (.sipush 512, 3) := by decide +kernel
theorem dX6_last_36 : decode cX6_last 36 = .ok (.istore_n 3, 1) := by decide +kernel
theorem dX6_last_37 : decode cX6_last 37 = .ok (.iload_n 3, 1) := by decide +kernel
theorem dX6_last_38 : decode cX6_last 38 = .ok (.ifCond .le 34, 3) := by decide +kernel
theorem dX6_last_41 : decode cX6_last 41 = .ok (.iload_n 2, 1) := by decide +kernel
theorem dX6_last_42 : decode cX6_last 42 = .ok (.iload_n 3, 1) := by decide +kernel
theorem dX6_last_43 : decode cX6_last 43 = .ok (.iadd, 1) := by decide +kernel
theorem dX6_last_44 : decode cX6_last 44 = .ok (.sipush 1000, 3) := by decide +kernel
theorem dX6_last_47 : decode cX6_last 47 = .ok (.if_icmp .gt 18, 3) := by decide +kernel
theorem dX6_last_50 : decode cX6_last 50 = .ok (.aload_n 0, 1) := by decide +kernel
theorem dX6_last_51 : decode cX6_last 51 = .ok (.iload_n 2, 1) := by decide +kernel
theorem dX6_last_52 : decode cX6_last 52 = .ok (.iload_n 3, 1) := by decide +kernel
theorem dX6_last_53 : decode cX6_last 53 = .ok (.iadd, 1) := by decide +kernel
theorem dX6_last_54 : decode cX6_last 54 = .ok (.iload_n 1, 1) := by decide +kernel
theorem dX6_last_55 : decode cX6_last 55 = .ok (.invokevirtual 192, 3) := by decide +kernel
theorem dX6_last_58 : decode cX6_last 58 = .ok (.ifCond .eq 7, 3) := by decide +kernel
theorem dX6_last_61 : decode cX6_last 61 = .ok (.iload_n 2, 1) := by decide +kernel
theorem dX6_last_62 : decode cX6_last 62 = .ok (.iload_n 3, 1) := by decide +kernel
theorem dX6_last_63 : decode cX6_last 63 = .ok (.iadd, 1) := by decide +kernel
theorem dX6_last_64 : decode cX6_last 64 = .ok (.istore_n 2, 1) := by decide +kernel
theorem dX6_last_65 : decode cX6_last 65 = .ok (.iload_n 3, 1) := by decide +kernel
theorem dX6_last_66 : decode cX6_last 66 = .ok (.iconst 1, 1) := by decide +kernel
theorem dX6_last_67 : decode cX6_last 67 = .ok (.ishr, 1) := by decide +kernel
theorem dX6_last_68 : decode cX6_last 68 = .ok (.istore_n 3, 1) := by decide +kernel
theorem dX6_last_69 : decode cX6_last 69 = .ok (.goto (-32), 3) := by decide +kernel
theorem dX6_last_72 : decode cX6_last 72 = .ok (.iload_n 2, 1) := by decide +kernel
theorem dX6_last_73 : decode cX6_last 73 = .ok (.ireturn, 1) := by decide +kernel
theorem dX6_isOffHeld_0 : decode cX6_isOffHeld 0 = .ok (.aload_n 0, 1) := by decide +kernel
theorem dX6_isOffHeld_1 : decode cX6_isOffHeld 1 = .ok (.getfield 19, 3) := by decide +kernel
theorem dX6_isOffHeld_4 : decode cX6_isOffHeld 4 = .ok (.iload_n 1, 1) := by decide +kernel
theorem dX6_isOffHeld_5 : decode cX6_isOffHeld 5 = .ok (.aload_n 0, 1) := by decide +kernel
theorem dX6_isOffHeld_6 : decode cX6_isOffHeld 6 = .ok (.getfield 45, 3) := by decide +kernel
theorem dX6_isOffHeld_9 : decode cX6_isOffHeld 9 = .ok (.invokevirtual 189, 3) := by decide +kernel
theorem dX6_isOffHeld_12 : decode cX6_isOffHeld 12 = .ok (.istore_n 3, 1) := by decide +kernel
theorem dX6_isOffHeld_13 : decode cX6_isOffHeld 13 = .ok (.iload_n 3, 1) := by decide +kernel
theorem dX6_isOffHeld_14 : decode cX6_isOffHeld 14 = .ok (.iconst (-1), 1) := by decide +kernel
theorem dX6_isOffHeld_15 : decode cX6_isOffHeld 15 = .ok (.if_icmp .eq 17, 3) := by decide +kernel
theorem dX6_isOffHeld_18 : decode cX6_isOffHeld 18 = .ok (.iload_n 2, 1) := by decide +kernel
theorem dX6_isOffHeld_19 : decode cX6_isOffHeld 19 = .ok (.iconst (-1), 1) := by decide +kernel
theorem dX6_isOffHeld_20 : decode cX6_isOffHeld 20 = .ok (.if_icmp .eq 8, 3) := by decide +kernel
theorem dX6_isOffHeld_23 : decode cX6_isOffHeld 23 = .ok (.iload_n 3, 1) := by decide +kernel
theorem dX6_isOffHeld_24 : decode cX6_isOffHeld 24 = .ok (.iload_n 2, 1) := by decide +kernel
theorem dX6_isOffHeld_25 : decode cX6_isOffHeld 25 = .ok (.if_icmp .gt 7, 3) := by decide +kernel
theorem dX6_isOffHeld_28 : decode cX6_isOffHeld 28 = .ok (.iconst 1, 1) := by decide +kernel
theorem dX6_isOffHeld_29 : decode cX6_isOffHeld 29 = .ok (.goto 4, 3) := by decide +kernel
theorem dX6_isOffHeld_32 : decode cX6_isOffHeld 32 = .ok (.iconst 0, 1) := by decide +kernel
theorem dX6_isOffHeld_33 : decode cX6_isOffHeld 33 = .ok (.ireturn, 1) := by decide +kernel
theorem dX6_train_0 : decode cX6_train 0 = .ok (.iload_n 1, 1) := by decide +kernel
theorem dX6_train_1 : decode cX6_train 1 = .ok (.ifCond .lt 10, 3) := by decide +kernel
theorem dX6_train_4 : decode cX6_train 4 = .ok (.iload_n 1, 1) := by decide +kernel
theorem dX6_train_5 : decode cX6_train 5 = .ok (.sipush 1000, 3) := by decide +kernel
theorem dX6_train_8 : decode cX6_train 8 = .ok (.if_icmp .le 13, 3) := by decide +kernel
theorem dX6_train_11 : decode cX6_train 11 = .ok (.new 55, 3) := by decide +kernel
theorem dX6_train_14 : decode cX6_train 14 = .ok (.dup, 1) := by decide +kernel
theorem dX6_train_15 : decode cX6_train 15 = .ok (.ldc 196, 2) := by decide +kernel
theorem dX6_train_17 : decode cX6_train 17 = .ok (.invokespecial 59, 3) := by decide +kernel
theorem dX6_train_20 : decode cX6_train 20 = .ok (.athrow, 1) := by decide +kernel
theorem dX6_train_21 : decode cX6_train 21 = .ok (.aload_n 0, 1) := by decide +kernel
theorem dX6_train_22 : decode cX6_train 22 = .ok (.getfield 33, 3) := by decide +kernel
theorem dX6_train_25 : decode cX6_train 25 = .ok (.getfield 198, 3) := by decide +kernel
theorem dX6_train_28 : decode cX6_train 28 = .ok (.bipush 30, 2) := by decide +kernel
theorem dX6_train_30 : decode cX6_train 30 = .ok (.if_icmp .lt 5, 3) := by decide +kernel
theorem dX6_train_33 : decode cX6_train 33 = .ok (.iconst (-1), 1) := by decide +kernel
theorem dX6_train_34 : decode cX6_train 34 = .ok (.ireturn, 1) := by decide +kernel
theorem dX6_train_35 : decode cX6_train 35 = .ok (.aload_n 0, 1) := by decide +kernel
theorem dX6_train_36 : decode cX6_train 36 = .ok (.getfield 33, 3) := by decide +kernel
theorem dX6_train_39 : decode cX6_train 39 = .ok (.iload_n 1, 1) := by decide +kernel
theorem dX6_train_40 : decode cX6_train 40 = .ok (.invokevirtual 201, 3) := by decide +kernel
theorem dX6_train_43 : decode cX6_train 43 = .ok (.ifCond .eq 8, 3) := by decide +kernel
theorem dX6_train_46 : decode cX6_train 46 = .ok (.bipush (-2), 2) := by decide +kernel
theorem dX6_train_48 : decode cX6_train 48 = .ok (.goto 11, 3) := by decide +kernel
theorem dX6_train_51 : decode cX6_train 51 = .ok (.aload_n 0, 1) := by decide +kernel
theorem dX6_train_52 : decode cX6_train 52 = .ok (.getfield 33, 3) := by decide +kernel
theorem dX6_train_55 : decode cX6_train 55 = .ok (.iload_n 1, 1) := by decide +kernel
theorem dX6_train_56 : decode cX6_train 56 = .ok (.invokevirtual 204, 3) := by decide +kernel
theorem dX6_train_59 : decode cX6_train 59 = .ok (.ireturn, 1) := by decide +kernel
theorem dX6_ends_0 : decode cX6_ends 0 = .ok (.aload_n 0, 1) := by decide +kernel
theorem dX6_ends_1 : decode cX6_ends 1 = .ok (.getfield 33, 3) := by decide +kernel
theorem dX6_ends_4 : decode cX6_ends 4 = .ok (.getfield 207, 3) := by decide +kernel
theorem dX6_ends_7 : decode cX6_ends 7 = .ok (.ireturn, 1) := by decide +kernel
theorem dX6_leave_0 : decode cX6_leave 0 = .ok (.aload_n 0, 1) := by decide +kernel
theorem dX6_leave_1 : decode cX6_leave 1 = .ok (.getfield 33, 3) := by decide +kernel
theorem dX6_leave_4 : decode cX6_leave 4 = .ok (.getfield 198, 3) := by decide +kernel
theorem dX6_leave_7 : decode cX6_leave 7 = .ok (.istore_n 1, 1) := by decide +kernel
theorem dX6_leave_8 : decode cX6_leave 8 = .ok (.aload_n 0, 1) := by decide +kernel
theorem dX6_leave_9 : decode cX6_leave 9 = .ok (.getfield 33, 3) := by decide +kernel
theorem dX6_leave_12 : decode cX6_leave 12 = .ok (.invokevirtual 210, 3) := by decide +kernel
theorem dX6_leave_15 : decode cX6_leave 15 = .ok (.iload_n 1, 1) := by decide +kernel
theorem dX6_leave_16 : decode cX6_leave 16 = .ok (.ireturn, 1) := by decide +kernel
theorem dX6_out_0 : decode cX6_out 0 = .ok (.aload_n 0, 1) := by decide +kernel
theorem dX6_out_1 : decode cX6_out 1 = .ok (.getfield 33, 3) := by decide +kernel
theorem dX6_out_4 : decode cX6_out 4 = .ok (.iload_n 1, 1) := by decide +kernel
theorem dX6_out_5 : decode cX6_out 5 = .ok (.invokevirtual 213, 3) := by decide +kernel
theorem dX6_out_8 : decode cX6_out 8 = .ok (.ireturn, 1) := by decide +kernel
theorem dX6_count_0 : decode cX6_count 0 = .ok (.iload_n 1, 1) := by decide +kernel
theorem dX6_count_1 : decode cX6_count 1 = .ok (.tableswitch 72 0 4 #[35, 43, 51, 56, 64], 35) := by decide +kernel
theorem dX6_count_36 : decode cX6_count 36 = .ok (.aload_n 0, 1) := by decide +kernel
theorem dX6_count_37 : decode cX6_count 37 = .ok (.getfield 19, 3) := by decide +kernel
theorem dX6_count_40 : decode cX6_count 40 = .ok (.getfield 62, 3) := by decide +kernel
theorem dX6_count_43 : decode cX6_count 43 = .ok (.ireturn, 1) := by decide +kernel
theorem dX6_count_44 : decode cX6_count 44 = .ok (.aload_n 0, 1) := by decide +kernel
theorem dX6_count_45 : decode cX6_count 45 = .ok (.getfield 19, 3) := by decide +kernel
theorem dX6_count_48 : decode cX6_count 48 = .ok (.getfield 125, 3) := by decide +kernel
theorem dX6_count_51 : decode cX6_count 51 = .ok (.ireturn, 1) := by decide +kernel
theorem dX6_count_52 : decode cX6_count 52 = .ok (.aload_n 0, 1) := by decide +kernel
theorem dX6_count_53 : decode cX6_count 53 = .ok (.getfield 41, 3) := by decide +kernel
theorem dX6_count_56 : decode cX6_count 56 = .ok (.ireturn, 1) := by decide +kernel
theorem dX6_count_57 : decode cX6_count 57 = .ok (.aload_n 0, 1) := by decide +kernel
theorem dX6_count_58 : decode cX6_count 58 = .ok (.getfield 33, 3) := by decide +kernel
theorem dX6_count_61 : decode cX6_count 61 = .ok (.getfield 198, 3) := by decide +kernel
theorem dX6_count_64 : decode cX6_count 64 = .ok (.ireturn, 1) := by decide +kernel
theorem dX6_count_65 : decode cX6_count 65 = .ok (.aload_n 0, 1) := by decide +kernel
theorem dX6_count_66 : decode cX6_count 66 = .ok (.getfield 10, 3) := by decide +kernel
theorem dX6_count_69 : decode cX6_count 69 = .ok (.getfield 48, 3) := by decide +kernel
theorem dX6_count_72 : decode cX6_count 72 = .ok (.ireturn, 1) := by decide +kernel
theorem dX6_count_73 : decode cX6_count 73 = .ok (.iconst (-1), 1) := by decide +kernel
theorem dX6_count_74 : decode cX6_count 74 = .ok (.ireturn, 1) := by decide +kernel
