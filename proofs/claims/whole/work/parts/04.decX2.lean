theorem dX2_init_0 : decode cX2_init 0 = .ok (.aload_n 0, 1) := by decide +kernel
theorem dX2_init_1 : decode cX2_init 1 = .ok (.invokespecial 3, 3) := by decide +kernel
theorem dX2_init_4 : decode cX2_init 4 = .ok (.aload_n 0, 1) := by decide +kernel
theorem dX2_init_5 : decode cX2_init 5 = .ok (.bipush 16, 2) := by decide +kernel
theorem dX2_init_7 : decode cX2_init 7 = .ok (.anewarray 9, 3) := by decide +kernel
theorem dX2_init_10 : decode cX2_init 10 = .ok (.putfield 11, 3) := by decide +kernel
theorem dX2_init_13 : decode cX2_init 13 = .ok (.aload_n 0, 1) := by decide +kernel
theorem dX2_init_14 : decode cX2_init 14 = .ok (.bipush 16, 2) := by decide +kernel
theorem dX2_init_16 : decode cX2_init 16 = .ok (.newarray .int, 2) := by decide +kernel
theorem dX2_init_18 : decode cX2_init 18 = .ok (.putfield 17, 3) := by decide +kernel
theorem dX2_init_21 : decode cX2_init 21 = .ok (.aload_n 0, 1) := by decide +kernel
theorem dX2_init_22 : decode cX2_init 22 = .ok (.bipush 22, 2) := by decide +kernel
theorem dX2_init_24 : decode cX2_init 24 = .ok (.anewarray 21, 3) := by decide +kernel
theorem dX2_init_27 : decode cX2_init 27 = .ok (.putfield 23, 3) := by decide +kernel
theorem dX2_init_30 : decode cX2_init 30 = .ok (.aload_n 0, 1) := by decide +kernel
theorem dX2_init_31 : decode cX2_init 31 = .ok (.iconst 0, 1) := by decide +kernel
theorem dX2_init_32 : decode cX2_init 32 = .ok (.putfield 27, 3) := by decide +kernel
theorem dX2_init_35 : decode cX2_init 35 = .ok (.aload_n 0, 1) := by decide +kernel
theorem dX2_init_36 : decode cX2_init 36 = .ok (.iconst 0, 1) := by decide +kernel
theorem dX2_init_37 : decode cX2_init 37 = .ok (.putfield 31, 3) := by decide +kernel
theorem dX2_init_40 : decode cX2_init 40 = .ok (.aload_n 0, 1) := by decide +kernel
theorem dX2_init_41 : decode cX2_init 41 = .ok (.bipush 30, 2) := by decide +kernel
theorem dX2_init_43 : decode cX2_init 43 = .ok (.putfield 34, 3) := by decide +kernel
theorem dX2_init_46 : decode cX2_init 46 = .ok (.aload_n 0, 1) := by decide +kernel
theorem dX2_init_47 : decode cX2_init 47 = .ok (.bipush 16, 2) := by decide +kernel
theorem dX2_init_49 : decode cX2_init 49 = .ok (.newarray .int, 2) := by decide +kernel
theorem dX2_init_51 : decode cX2_init 51 = .ok (.putfield 37, 3) := by decide +kernel
theorem dX2_init_54 : decode cX2_init 54 = .ok (.iconst 0, 1) := by decide +kernel
theorem dX2_init_55 : decode cX2_init 55 = .ok (.istore_n 1, 1) := by decide +kernel
theorem dX2_init_56 : decode cX2_init 56 = .ok (.iload_n 1, 1) := by decide +kernel
theorem dX2_init_57 : decode cX2_init 57 = .ok (.aload_n 0, 1) := by decide +kernel
theorem dX2_init_58 : decode cX2_init 58 = .ok (.getfield 11, 3) := by decide +kernel
theorem dX2_init_61 : decode cX2_init 61 = .ok (.arraylength, 1) := by decide +kernel
theorem dX2_init_62 : decode cX2_init 62 = .ok (.if_icmp .ge 22, 3) := by decide +kernel
theorem dX2_init_65 : decode cX2_init 65 = .ok (.aload_n 0, 1) := by decide +kernel
theorem dX2_init_66 : decode cX2_init 66 = .ok (.getfield 11, 3) := by decide +kernel
theorem dX2_init_69 : decode cX2_init 69 = .ok (.iload_n 1, 1) := by decide +kernel
theorem dX2_init_70 : decode cX2_init 70 = .ok (.new 9, 3) := by decide +kernel
theorem dX2_init_73 : decode cX2_init 73 = .ok (.dup, 1) := by decide +kernel
theorem dX2_init_74 : decode cX2_init 74 = .ok (.invokespecial 40, 3) := by decide +kernel
theorem dX2_init_77 : decode cX2_init 77 = .ok (.aastore, 1) := by decide +kernel
theorem dX2_init_78 : decode cX2_init 78 = .ok (.iinc 1 1, 3) := by decide +kernel
theorem dX2_init_81 : decode cX2_init 81 = .ok (.goto (-25), 3) := by decide +kernel
theorem dX2_init_84 : decode cX2_init 84 = .ok (.iconst 0, 1) := by decide +kernel
theorem dX2_init_85 : decode cX2_init 85 = .ok (.istore_n 1, 1) := by decide +kernel
theorem dX2_init_86 : decode cX2_init 86 = .ok (.iload_n 1, 1) := by decide +kernel
theorem dX2_init_87 : decode cX2_init 87 = .ok (.aload_n 0, 1) := by decide +kernel
theorem dX2_init_88 : decode cX2_init 88 = .ok (.getfield 23, 3) := by decide +kernel
theorem dX2_init_91 : decode cX2_init 91 = .ok (.arraylength, 1) := by decide +kernel
theorem dX2_init_92 : decode cX2_init 92 = .ok (.if_icmp .ge 22, 3) := by decide +kernel
theorem dX2_init_95 : decode cX2_init 95 = .ok (.aload_n 0, 1) := by decide +kernel
theorem dX2_init_96 : decode cX2_init 96 = .ok (.getfield 23, 3) := by decide +kernel
theorem dX2_init_99 : decode cX2_init 99 = .ok (.iload_n 1, 1) := by decide +kernel
theorem dX2_init_100 : decode cX2_init 100 = .ok (.new 21, 3) := by decide +kernel
theorem dX2_init_103 : decode cX2_init 103 = .ok (.dup, 1) := by decide +kernel
theorem dX2_init_104 : decode cX2_init 104 = .ok (.invokespecial 41, 3) := by decide +kernel
theorem dX2_init_107 : decode cX2_init 107 = .ok (.aastore, 1) := by decide +kernel
theorem dX2_init_108 : decode cX2_init 108 = .ok (.iinc 1 1, 3) := by decide +kernel
theorem dX2_init_111 : decode cX2_init 111 = .ok (.goto (-25), 3) := by decide +kernel
theorem dX2_init_114 : decode cX2_init 114 = .ok (.return_, 1) := by decide +kernel
theorem dX2_hasWork_0 : decode cX2_hasWork 0 = .ok (.iload_n 1, 1) := by decide +kernel
theorem dX2_hasWork_1 : decode cX2_hasWork 1 = .ok (.ifCond .lt 15, 3) := by decide +kernel
theorem dX2_hasWork_4 : decode cX2_hasWork 4 = .ok (.iload_n 1, 1) := by decide +kernel
theorem dX2_hasWork_5 : decode cX2_hasWork 5 = .ok (.aload_n 0, 1) := by decide +kernel
theorem dX2_hasWork_6 : decode cX2_hasWork 6 = .ok (.getfield 27, 3) := by decide +kernel
theorem dX2_hasWork_9 : decode cX2_hasWork 9 = .ok (.if_icmp .ge 7, 3) := by decide +kernel
theorem dX2_hasWork_12 : decode cX2_hasWork 12 = .ok (.iconst 1, 1) := by decide +kernel
theorem dX2_hasWork_13 : decode cX2_hasWork 13 = .ok (.goto 4, 3) := by decide +kernel
theorem dX2_hasWork_16 : decode cX2_hasWork 16 = .ok (.iconst 0, 1) := by decide +kernel
theorem dX2_hasWork_17 : decode cX2_hasWork 17 = .ok (.ireturn, 1) := by decide +kernel
theorem dX2_hasRow_0 : decode cX2_hasRow 0 = .ok (.iload_n 1, 1) := by decide +kernel
theorem dX2_hasRow_1 : decode cX2_hasRow 1 = .ok (.ifCond .lt 17, 3) := by decide +kernel
theorem dX2_hasRow_4 : decode cX2_hasRow 4 = .ok (.iload_n 1, 1) := by decide +kernel
theorem dX2_hasRow_5 : decode cX2_hasRow 5 = .ok (.iconst 2, 1) := by decide +kernel
theorem dX2_hasRow_6 : decode cX2_hasRow 6 = .ok (.aload_n 0, 1) := by decide +kernel
theorem dX2_hasRow_7 : decode cX2_hasRow 7 = .ok (.getfield 31, 3) := by decide +kernel
theorem dX2_hasRow_10 : decode cX2_hasRow 10 = .ok (.iadd, 1) := by decide +kernel
theorem dX2_hasRow_11 : decode cX2_hasRow 11 = .ok (.if_icmp .ge 7, 3) := by decide +kernel
theorem dX2_hasRow_14 : decode cX2_hasRow 14 = .ok (.iconst 1, 1) := by decide +kernel
theorem dX2_hasRow_15 : decode cX2_hasRow 15 = .ok (.goto 4, 3) := by decide +kernel
theorem dX2_hasRow_18 : decode cX2_hasRow 18 = .ok (.iconst 0, 1) := by decide +kernel
theorem dX2_hasRow_19 : decode cX2_hasRow 19 = .ok (.ireturn, 1) := by decide +kernel
theorem dX2_add_0 : decode cX2_add 0 = .ok (.aload_n 0, 1) := by decide +kernel
theorem dX2_add_1 : decode cX2_add 1 = .ok (.getfield 27, 3) := by decide +kernel
theorem dX2_add_4 : decode cX2_add 4 = .ok (.istore_n 2, 1) := by decide +kernel
theorem dX2_add_5 : decode cX2_add 5 = .ok (.aload_n 0, 1) := by decide +kernel
theorem dX2_add_6 : decode cX2_add 6 = .ok (.getfield 11, 3) := by decide +kernel
theorem dX2_add_9 : decode cX2_add 9 = .ok (.iload_n 2, 1) := by decide +kernel
theorem dX2_add_10 : decode cX2_add 10 = .ok (.aaload, 1) := by decide +kernel
theorem dX2_add_11 : decode cX2_add 11 = .ok (.aload_n 1, 1) := by decide +kernel
theorem dX2_add_12 : decode cX2_add 12 = .ok (.invokevirtual 42, 3) := by decide +kernel
theorem dX2_add_15 : decode cX2_add 15 = .ok (.aload_n 0, 1) := by decide +kernel
theorem dX2_add_16 : decode cX2_add 16 = .ok (.getfield 23, 3) := by decide +kernel
theorem dX2_add_19 : decode cX2_add 19 = .ok (.iconst 0, 1) := by decide +kernel
theorem dX2_add_20 : decode cX2_add 20 = .ok (.aaload, 1) := by decide +kernel
theorem dX2_add_21 : decode cX2_add 21 = .ok (.getfield 46, 3) := by decide +kernel
theorem dX2_add_24 : decode cX2_add 24 = .ok (.iload_n 2, 1) := by decide +kernel
theorem dX2_add_25 : decode cX2_add 25 = .ok (.aload_n 1, 1) := by decide +kernel
theorem dX2_add_26 : decode cX2_add 26 = .ok (.getfield 49, 3) := by decide +kernel
theorem dX2_add_29 : decode cX2_add 29 = .ok (.iastore, 1) := by decide +kernel
theorem dX2_add_30 : decode cX2_add 30 = .ok (.aload_n 0, 1) := by decide +kernel
theorem dX2_add_31 : decode cX2_add 31 = .ok (.getfield 23, 3) := by decide +kernel
theorem dX2_add_34 : decode cX2_add 34 = .ok (.iconst 1, 1) := by decide +kernel
theorem dX2_add_35 : decode cX2_add 35 = .ok (.aaload, 1) := by decide +kernel
theorem dX2_add_36 : decode cX2_add 36 = .ok (.getfield 46, 3) := by decide +kernel
theorem dX2_add_39 : decode cX2_add 39 = .ok (.iload_n 2, 1) := by decide +kernel
theorem dX2_add_40 : decode cX2_add 40 = .ok (.aload_n 1, 1) := by decide +kernel
theorem dX2_add_41 : decode cX2_add 41 = .ok (.getfield 52, 3) := by decide +kernel
theorem dX2_add_44 : decode cX2_add 44 = .ok (.iastore, 1) := by decide +kernel
theorem dX2_add_45 : decode cX2_add 45 = .ok (.aload_n 0, 1) := by decide +kernel
theorem dX2_add_46 : decode cX2_add 46 = .ok (.getfield 17, 3) := by decide +kernel
theorem dX2_add_49 : decode cX2_add 49 = .ok (.iload_n 2, 1) := by decide +kernel
theorem dX2_add_50 : decode cX2_add 50 = .ok (.iload_n 2, 1) := by decide +kernel
theorem dX2_add_51 : decode cX2_add 51 = .ok (.iastore, 1) := by decide +kernel
theorem dX2_add_52 : decode cX2_add 52 = .ok (.aload_n 0, 1) := by decide +kernel
theorem dX2_add_53 : decode cX2_add 53 = .ok (.dup, 1) := by decide +kernel
theorem dX2_add_54 : decode cX2_add 54 = .ok (.getfield 27, 3) := by decide +kernel
theorem dX2_add_57 : decode cX2_add 57 = .ok (.iconst 1, 1) := by decide +kernel
theorem dX2_add_58 : decode cX2_add 58 = .ok (.iadd, 1) := by decide +kernel
theorem dX2_add_59 : decode cX2_add 59 = .ok (.putfield 27, 3) := by decide +kernel
theorem dX2_add_62 : decode cX2_add 62 = .ok (.aload_n 0, 1) := by decide +kernel
theorem dX2_add_63 : decode cX2_add 63 = .ok (.iconst 0, 1) := by decide +kernel
theorem dX2_add_64 : decode cX2_add 64 = .ok (.putfield 31, 3) := by decide +kernel
theorem dX2_add_67 : decode cX2_add 67 = .ok (.iload_n 2, 1) := by decide +kernel
theorem dX2_add_68 : decode cX2_add 68 = .ok (.ireturn, 1) := by decide +kernel
theorem dX2_addDraw_0 : decode cX2_addDraw 0 = .ok (.iconst 2, 1) := by decide +kernel
theorem dX2_addDraw_1 : decode cX2_addDraw 1 = .ok (.aload_n 0, 1) := by decide +kernel
theorem dX2_addDraw_2 : decode cX2_addDraw 2 = .ok (.getfield 31, 3) := by decide +kernel
theorem dX2_addDraw_5 : decode cX2_addDraw 5 = .ok (.iadd, 1) := by decide +kernel
theorem dX2_addDraw_6 : decode cX2_addDraw 6 = .ok (.istore_n 2, 1) := by decide +kernel
theorem dX2_addDraw_7 : decode cX2_addDraw 7 = .ok (.iconst 0, 1) := by decide +kernel
theorem dX2_addDraw_8 : decode cX2_addDraw 8 = .ok (.istore_n 3, 1) := by decide +kernel
theorem dX2_addDraw_9 : decode cX2_addDraw 9 = .ok (.iload_n 3, 1) := by decide +kernel
theorem dX2_addDraw_10 : decode cX2_addDraw 10 = .ok (.aload_n 0, 1) := by decide +kernel
theorem dX2_addDraw_11 : decode cX2_addDraw 11 = .ok (.getfield 27, 3) := by decide +kernel
theorem dX2_addDraw_14 : decode cX2_addDraw 14 = .ok (.if_icmp .ge 32, 3) := by decide +kernel
theorem dX2_addDraw_17 : decode cX2_addDraw 17 = .ok (.aload_n 0, 1) := by decide +kernel
theorem dX2_addDraw_18 : decode cX2_addDraw 18 = .ok (.getfield 23, 3) := by decide +kernel
theorem dX2_addDraw_21 : decode cX2_addDraw 21 = .ok (.iload_n 2, 1) := by decide +kernel
theorem dX2_addDraw_22 : decode cX2_addDraw 22 = .ok (.aaload, 1) := by decide +kernel
theorem dX2_addDraw_23 : decode cX2_addDraw 23 = .ok (.getfield 46, 3) := by decide +kernel
theorem dX2_addDraw_26 : decode cX2_addDraw 26 = .ok (.iload_n 3, 1) := by decide +kernel
theorem dX2_addDraw_27 : decode cX2_addDraw 27 = .ok (.aload_n 0, 1) := by decide +kernel
theorem dX2_addDraw_28 : decode cX2_addDraw 28 = .ok (.getfield 11, 3) := by decide +kernel
theorem dX2_addDraw_31 : decode cX2_addDraw 31 = .ok (.iload_n 3, 1) := by decide +kernel
theorem dX2_addDraw_32 : decode cX2_addDraw 32 = .ok (.aaload, 1) := by decide +kernel
theorem dX2_addDraw_33 : decode cX2_addDraw 33 = .ok (.aload_n 1, 1) := by decide +kernel
theorem dX2_addDraw_34 : decode cX2_addDraw 34 = .ok (.iload_n 3, 1) := by decide +kernel
theorem dX2_addDraw_35 : decode cX2_addDraw 35 = .ok (.iaload, 1) := by decide +kernel
theorem dX2_addDraw_36 : decode cX2_addDraw 36 = .ok (.invokevirtual 55, 3) := by decide +kernel
theorem dX2_addDraw_39 : decode cX2_addDraw 39 = .ok (.iastore, 1) := by decide +kernel
theorem dX2_addDraw_40 : decode cX2_addDraw 40 = .ok (.iinc 3 1, 3) := by decide +kernel
theorem dX2_addDraw_43 : decode cX2_addDraw 43 = .ok (.goto (-34), 3) := by decide +kernel
theorem dX2_addDraw_46 : decode cX2_addDraw 46 = .ok (.aload_n 0, 1) := by decide +kernel
theorem dX2_addDraw_47 : decode cX2_addDraw 47 = .ok (.dup, 1) := by decide +kernel
theorem dX2_addDraw_48 : decode cX2_addDraw 48 = .ok (.getfield 31, 3) := by decide +kernel
theorem dX2_addDraw_51 : decode cX2_addDraw 51 = .ok (.iconst 1, 1) := by decide +kernel
theorem dX2_addDraw_52 : decode cX2_addDraw 52 = .ok (.iadd, 1) := by decide +kernel
theorem dX2_addDraw_53 : decode cX2_addDraw 53 = .ok (.putfield 31, 3) := by decide +kernel
theorem dX2_addDraw_56 : decode cX2_addDraw 56 = .ok (.iload_n 2, 1) := by decide +kernel
theorem dX2_addDraw_57 : decode cX2_addDraw 57 = .ok (.ireturn, 1) := by decide +kernel
theorem dX2_shift_0 : decode cX2_shift 0 = .ok (.iconst 0, 1) := by decide +kernel
theorem dX2_shift_1 : decode cX2_shift 1 = .ok (.istore_n 3, 1) := by decide +kernel
theorem dX2_shift_2 : decode cX2_shift 2 = .ok (.iload_n 3, 1) := by decide +kernel
theorem dX2_shift_3 : decode cX2_shift 3 = .ok (.aload_n 0, 1) := by decide +kernel
theorem dX2_shift_4 : decode cX2_shift 4 = .ok (.getfield 27, 3) := by decide +kernel
theorem dX2_shift_7 : decode cX2_shift 7 = .ok (.iconst 1, 1) := by decide +kernel
theorem dX2_shift_8 : decode cX2_shift 8 = .ok (.isub, 1) := by decide +kernel
theorem dX2_shift_9 : decode cX2_shift 9 = .ok (.if_icmp .ge 19, 3) := by decide +kernel
theorem dX2_shift_12 : decode cX2_shift 12 = .ok (.aload_n 0, 1) := by decide +kernel
theorem dX2_shift_13 : decode cX2_shift 13 = .ok (.getfield 17, 3) := by decide +kernel
theorem dX2_shift_16 : decode cX2_shift 16 = .ok (.iload_n 3, 1) := by decide +kernel
theorem dX2_shift_17 : decode cX2_shift 17 = .ok (.iaload, 1) := by decide +kernel
theorem dX2_shift_18 : decode cX2_shift 18 = .ok (.iload_n 1, 1) := by decide +kernel
theorem dX2_shift_19 : decode cX2_shift 19 = .ok (.if_icmp .eq 9, 3) := by decide +kernel
theorem dX2_shift_22 : decode cX2_shift 22 = .ok (.iinc 3 1, 3) := by decide +kernel
theorem dX2_shift_25 : decode cX2_shift 25 = .ok (.goto (-23), 3) := by decide +kernel
theorem dX2_shift_28 : decode cX2_shift 28 = .ok (.iload_n 3, 1) := by decide +kernel
theorem dX2_shift_29 : decode cX2_shift 29 = .ok (.istore 4, 2) := by decide +kernel
theorem dX2_shift_31 : decode cX2_shift 31 = .ok (.iload 4, 2) := by decide +kernel
theorem dX2_shift_33 : decode cX2_shift 33 = .ok (.iload_n 2, 1) := by decide +kernel
theorem dX2_shift_34 : decode cX2_shift 34 = .ok (.if_icmp .ge 25, 3) := by decide +kernel
theorem dX2_shift_37 : decode cX2_shift 37 = .ok (.aload_n 0, 1) := by decide +kernel
theorem dX2_shift_38 : decode cX2_shift 38 = .ok (.getfield 17, 3) := by decide +kernel
theorem dX2_shift_41 : decode cX2_shift 41 = .ok (.iload 4, 2) := by decide +kernel
theorem dX2_shift_43 : decode cX2_shift 43 = .ok (.aload_n 0, 1) := by decide +kernel
theorem dX2_shift_44 : decode cX2_shift 44 = .ok (.getfield 17, 3) := by decide +kernel
theorem dX2_shift_47 : decode cX2_shift 47 = .ok (.iload 4, 2) := by decide +kernel
theorem dX2_shift_49 : decode cX2_shift 49 = .ok (.iconst 1, 1) := by decide +kernel
theorem dX2_shift_50 : decode cX2_shift 50 = .ok (.iadd, 1) := by decide +kernel
theorem dX2_shift_51 : decode cX2_shift 51 = .ok (.iaload, 1) := by decide +kernel
theorem dX2_shift_52 : decode cX2_shift 52 = .ok (.iastore, 1) := by decide +kernel
theorem dX2_shift_53 : decode cX2_shift 53 = .ok (.iinc 4 1, 3) := by decide +kernel
theorem dX2_shift_56 : decode cX2_shift 56 = .ok (.goto (-25), 3) := by decide +kernel
theorem dX2_shift_59 : decode cX2_shift 59 = .ok (.iload_n 3, 1) := by decide +kernel
theorem dX2_shift_60 : decode cX2_shift 60 = .ok (.istore 4, 2) := by decide +kernel
theorem dX2_shift_62 : decode cX2_shift 62 = .ok (.iload 4, 2) := by decide +kernel
theorem dX2_shift_64 : decode cX2_shift 64 = .ok (.iload_n 2, 1) := by decide +kernel
theorem dX2_shift_65 : decode cX2_shift 65 = .ok (.if_icmp .le 25, 3) := by decide +kernel
theorem dX2_shift_68 : decode cX2_shift 68 = .ok (.aload_n 0, 1) := by decide +kernel
theorem dX2_shift_69 : decode cX2_shift 69 = .ok (.getfield 17, 3) := by decide +kernel
theorem dX2_shift_72 : decode cX2_shift 72 = .ok (.iload 4, 2) := by decide +kernel
theorem dX2_shift_74 : decode cX2_shift 74 = .ok (.aload_n 0, 1) := by decide +kernel
theorem dX2_shift_75 : decode cX2_shift 75 = .ok (.getfield 17, 3) := by decide +kernel
theorem dX2_shift_78 : decode cX2_shift 78 = .ok (.iload 4, 2) := by decide +kernel
theorem dX2_shift_80 : decode cX2_shift 80 = .ok (.iconst 1, 1) := by decide +kernel
theorem dX2_shift_81 : decode cX2_shift 81 = .ok (.isub, 1) := by decide +kernel
theorem dX2_shift_82 : decode cX2_shift 82 = .ok (.iaload, 1) := by decide +kernel
theorem dX2_shift_83 : decode cX2_shift 83 = .ok (.iastore, 1) := by decide +kernel
theorem dX2_shift_84 : decode cX2_shift 84 = .ok (.iinc 4 (-1), 3) := by decide +kernel
theorem dX2_shift_87 : decode cX2_shift 87 = .ok (.goto (-25), 3) := by decide +kernel
theorem dX2_shift_90 : decode cX2_shift 90 = .ok (.aload_n 0, 1) := by decide +kernel
theorem dX2_shift_91 : decode cX2_shift 91 = .ok (.getfield 17, 3) := by decide +kernel
theorem dX2_shift_94 : decode cX2_shift 94 = .ok (.iload_n 2, 1) := by decide +kernel
theorem dX2_shift_95 : decode cX2_shift 95 = .ok (.iload_n 1, 1) := by decide +kernel
theorem dX2_shift_96 : decode cX2_shift 96 = .ok (.iastore, 1) := by decide +kernel
theorem dX2_shift_97 : decode cX2_shift 97 = .ok (.iload_n 3, 1) := by decide +kernel
theorem dX2_shift_98 : decode cX2_shift 98 = .ok (.ireturn, 1) := by decide +kernel
theorem dX2_walk_0 : decode cX2_walk 0 = .ok (.aload_n 0, 1) := by decide +kernel
theorem dX2_walk_1 : decode cX2_walk 1 = .ok (.getfield 23, 3) := by decide +kernel
theorem dX2_walk_4 : decode cX2_walk 4 = .ok (.iload_n 1, 1) := by decide +kernel
theorem dX2_walk_5 : decode cX2_walk 5 = .ok (.aaload, 1) := by decide +kernel
theorem dX2_walk_6 : decode cX2_walk 6 = .ok (.astore_n 3, 1) := by decide +kernel
theorem dX2_walk_7 : decode cX2_walk 7 = .ok (.aload_n 3, 1) := by decide +kernel
theorem dX2_walk_8 : decode cX2_walk 8 = .ok (.getfield 59, 3) := by decide +kernel
theorem dX2_walk_11 : decode cX2_walk 11 = .ok (.iconst (-1), 1) := by decide +kernel
theorem dX2_walk_12 : decode cX2_walk 12 = .ok (.invokestatic 62, 3) := by decide +kernel
theorem dX2_walk_15 : decode cX2_walk 15 = .ok (.aload_n 0, 1) := by decide +kernel
theorem dX2_walk_16 : decode cX2_walk 16 = .ok (.iconst 0, 1) := by decide +kernel
theorem dX2_walk_17 : decode cX2_walk 17 = .ok (.putfield 68, 3) := by decide +kernel
theorem dX2_walk_20 : decode cX2_walk 20 = .ok (.aload_n 0, 1) := by decide +kernel
theorem dX2_walk_21 : decode cX2_walk 21 = .ok (.iconst 0, 1) := by decide +kernel
theorem dX2_walk_22 : decode cX2_walk 22 = .ok (.putfield 71, 3) := by decide +kernel
theorem dX2_walk_25 : decode cX2_walk 25 = .ok (.aload_n 0, 1) := by decide +kernel
theorem dX2_walk_26 : decode cX2_walk 26 = .ok (.iconst 0, 1) := by decide +kernel
theorem dX2_walk_27 : decode cX2_walk 27 = .ok (.putfield 74, 3) := by decide +kernel
theorem dX2_walk_30 : decode cX2_walk 30 = .ok (.aload_n 0, 1) := by decide +kernel
theorem dX2_walk_31 : decode cX2_walk 31 = .ok (.aload_n 0, 1) := by decide +kernel
theorem dX2_walk_32 : decode cX2_walk 32 = .ok (.getfield 34, 3) := by decide +kernel
theorem dX2_walk_35 : decode cX2_walk 35 = .ok (.putfield 77, 3) := by decide +kernel
theorem dX2_walk_38 : decode cX2_walk 38 = .ok (.iconst 0, 1) := by decide +kernel
theorem dX2_walk_39 : decode cX2_walk 39 = .ok (.istore 4, 2) := by decide +kernel
theorem dX2_walk_41 : decode cX2_walk 41 = .ok (.iconst 0, 1) := by decide +kernel
theorem dX2_walk_42 : decode cX2_walk 42 = .ok (.istore 5, 2) := by decide +kernel
theorem dX2_walk_44 : decode cX2_walk 44 = .ok (.iload 5, 2) := by decide +kernel
theorem dX2_walk_46 : decode cX2_walk 46 = .ok (.aload_n 0, 1) := by decide +kernel
theorem dX2_walk_47 : decode cX2_walk 47 = .ok (.getfield 27, 3) := by decide +kernel
theorem dX2_walk_50 : decode cX2_walk 50 = .ok (.if_icmp .gt 43, 3) := by decide +kernel
theorem dX2_walk_53 : decode cX2_walk 53 = .ok (.aload_n 0, 1) := by decide +kernel
theorem dX2_walk_54 : decode cX2_walk 54 = .ok (.iload 4, 2) := by decide +kernel
theorem dX2_walk_56 : decode cX2_walk 56 = .ok (.aload_n 3, 1) := by decide +kernel
theorem dX2_walk_57 : decode cX2_walk 57 = .ok (.aload_n 2, 1) := by decide +kernel
theorem dX2_walk_58 : decode cX2_walk 58 = .ok (.invokevirtual 80, 3) := by decide +kernel
theorem dX2_walk_61 : decode cX2_walk 61 = .ok (.aload_n 0, 1) := by decide +kernel
theorem dX2_walk_62 : decode cX2_walk 62 = .ok (.getfield 68, 3) := by decide +kernel
theorem dX2_walk_65 : decode cX2_walk 65 = .ok (.aload_n 0, 1) := by decide +kernel
theorem dX2_walk_66 : decode cX2_walk 66 = .ok (.getfield 71, 3) := by decide +kernel
theorem dX2_walk_69 : decode cX2_walk 69 = .ok (.if_icmp .ne 6, 3) := by decide +kernel
theorem dX2_walk_72 : decode cX2_walk 72 = .ok (.goto 21, 3) := by decide +kernel
theorem dX2_walk_75 : decode cX2_walk 75 = .ok (.aload_n 0, 1) := by decide +kernel
theorem dX2_walk_76 : decode cX2_walk 76 = .ok (.invokevirtual 84, 3) := by decide +kernel
theorem dX2_walk_79 : decode cX2_walk 79 = .ok (.istore 4, 2) := by decide +kernel
theorem dX2_walk_81 : decode cX2_walk 81 = .ok (.aload_n 0, 1) := by decide +kernel
theorem dX2_walk_82 : decode cX2_walk 82 = .ok (.iload 4, 2) := by decide +kernel
theorem dX2_walk_84 : decode cX2_walk 84 = .ok (.invokevirtual 88, 3) := by decide +kernel
theorem dX2_walk_87 : decode cX2_walk 87 = .ok (.iinc 5 1, 3) := by decide +kernel
theorem dX2_walk_90 : decode cX2_walk 90 = .ok (.goto (-46), 3) := by decide +kernel
theorem dX2_walk_93 : decode cX2_walk 93 = .ok (.aload_n 3, 1) := by decide +kernel
theorem dX2_walk_94 : decode cX2_walk 94 = .ok (.aload_n 0, 1) := by decide +kernel
theorem dX2_walk_95 : decode cX2_walk 95 = .ok (.getfield 71, 3) := by decide +kernel
theorem dX2_walk_98 : decode cX2_walk 98 = .ok (.iconst 1, 1) := by decide +kernel
theorem dX2_walk_99 : decode cX2_walk 99 = .ok (.aload_n 0, 1) := by decide +kernel
theorem dX2_walk_100 : decode cX2_walk 100 = .ok (.getfield 27, 3) := by decide +kernel
theorem dX2_walk_103 : decode cX2_walk 103 = .ok (.ishl, 1) := by decide +kernel
theorem dX2_walk_104 : decode cX2_walk 104 = .ok (.iconst 1, 1) := by decide +kernel
theorem dX2_walk_105 : decode cX2_walk 105 = .ok (.isub, 1) := by decide +kernel
theorem dX2_walk_106 : decode cX2_walk 106 = .ok (.if_icmp .ne 8, 3) := by decide +kernel
theorem dX2_walk_109 : decode cX2_walk 109 = .ok (.iload 4, 2) := by decide +kernel
theorem dX2_walk_111 : decode cX2_walk 111 = .ok (.goto 4, 3) := by decide +kernel
theorem dX2_walk_114 : decode cX2_walk 114 = .ok (.iconst (-1), 1) := by decide +kernel
theorem dX2_walk_115 : decode cX2_walk 115 = .ok (.putfield 92, 3) := by decide +kernel
theorem dX2_walk_118 : decode cX2_walk 118 = .ok (.aload_n 3, 1) := by decide +kernel
theorem dX2_walk_119 : decode cX2_walk 119 = .ok (.getfield 92, 3) := by decide +kernel
theorem dX2_walk_122 : decode cX2_walk 122 = .ok (.ireturn, 1) := by decide +kernel
theorem dX2_beginAt_0 : decode cX2_beginAt 0 = .ok (.iconst 0, 1) := by decide +kernel
theorem dX2_beginAt_1 : decode cX2_beginAt 1 = .ok (.istore 4, 2) := by decide +kernel
theorem dX2_beginAt_3 : decode cX2_beginAt 3 = .ok (.iload 4, 2) := by decide +kernel
theorem dX2_beginAt_5 : decode cX2_beginAt 5 = .ok (.aload_n 0, 1) := by decide +kernel
theorem dX2_beginAt_6 : decode cX2_beginAt 6 = .ok (.getfield 27, 3) := by decide +kernel
theorem dX2_beginAt_9 : decode cX2_beginAt 9 = .ok (.if_icmp .ge 116, 3) := by decide +kernel
theorem dX2_beginAt_12 : decode cX2_beginAt 12 = .ok (.aload_n 3, 1) := by decide +kernel
theorem dX2_beginAt_13 : decode cX2_beginAt 13 = .ok (.iload 4, 2) := by decide +kernel
theorem dX2_beginAt_15 : decode cX2_beginAt 15 = .ok (.iaload, 1) := by decide +kernel
theorem dX2_beginAt_16 : decode cX2_beginAt 16 = .ok (.istore 5, 2) := by decide +kernel
theorem dX2_beginAt_18 : decode cX2_beginAt 18 = .ok (.aload_n 0, 1) := by decide +kernel
theorem dX2_beginAt_19 : decode cX2_beginAt 19 = .ok (.getfield 68, 3) := by decide +kernel
theorem dX2_beginAt_22 : decode cX2_beginAt 22 = .ok (.iconst 1, 1) := by decide +kernel
theorem dX2_beginAt_23 : decode cX2_beginAt 23 = .ok (.iload 5, 2) := by decide +kernel
theorem dX2_beginAt_25 : decode cX2_beginAt 25 = .ok (.ishl, 1) := by decide +kernel
theorem dX2_beginAt_26 : decode cX2_beginAt 26 = .ok (.iand, 1) := by decide +kernel
theorem dX2_beginAt_27 : decode cX2_beginAt 27 = .ok (.ifCond .ne 92, 3) := by decide +kernel
theorem dX2_beginAt_30 : decode cX2_beginAt 30 = .ok (.aload_n 0, 1) := by decide +kernel
theorem dX2_beginAt_31 : decode cX2_beginAt 31 = .ok (.aload_n 0, 1) := by decide +kernel
theorem dX2_beginAt_32 : decode cX2_beginAt 32 = .ok (.getfield 11, 3) := by decide +kernel
theorem dX2_beginAt_35 : decode cX2_beginAt 35 = .ok (.iload 5, 2) := by decide +kernel
theorem dX2_beginAt_37 : decode cX2_beginAt 37 = .ok (.aaload, 1) := by decide +kernel
theorem dX2_beginAt_38 : decode cX2_beginAt 38 = .ok (.invokevirtual 95, 3) := by decide +kernel
theorem dX2_beginAt_41 : decode cX2_beginAt 41 = .ok (.ifCond .eq 78, 3) := by decide +kernel
theorem dX2_beginAt_44 : decode cX2_beginAt 44 = .ok (.aload_n 0, 1) := by decide +kernel
theorem dX2_beginAt_45 : decode cX2_beginAt 45 = .ok (.dup, 1) := by decide +kernel
theorem dX2_beginAt_46 : decode cX2_beginAt 46 = .ok (.getfield 68, 3) := by decide +kernel
theorem dX2_beginAt_49 : decode cX2_beginAt 49 = .ok (.iconst 1, 1) := by decide +kernel
theorem dX2_beginAt_50 : decode cX2_beginAt 50 = .ok (.iload 5, 2) := by decide +kernel
theorem dX2_beginAt_52 : decode cX2_beginAt 52 = .ok (.ishl, 1) := by decide +kernel
theorem dX2_beginAt_53 : decode cX2_beginAt 53 = .ok (.ior, 1) := by decide +kernel
theorem dX2_beginAt_54 : decode cX2_beginAt 54 = .ok (.putfield 68, 3) := by decide +kernel
theorem dX2_beginAt_57 : decode cX2_beginAt 57 = .ok (.aload_n 0, 1) := by decide +kernel
theorem dX2_beginAt_58 : decode cX2_beginAt 58 = .ok (.dup, 1) := by decide +kernel
theorem dX2_beginAt_59 : decode cX2_beginAt 59 = .ok (.getfield 74, 3) := by decide +kernel
theorem dX2_beginAt_62 : decode cX2_beginAt 62 = .ok (.aload_n 0, 1) := by decide +kernel
theorem dX2_beginAt_63 : decode cX2_beginAt 63 = .ok (.getfield 11, 3) := by decide +kernel
theorem dX2_beginAt_66 : decode cX2_beginAt 66 = .ok (.iload 5, 2) := by decide +kernel
theorem dX2_beginAt_68 : decode cX2_beginAt 68 = .ok (.aaload, 1) := by decide +kernel
theorem dX2_beginAt_69 : decode cX2_beginAt 69 = .ok (.getfield 99, 3) := by decide +kernel
theorem dX2_beginAt_72 : decode cX2_beginAt 72 = .ok (.ior, 1) := by decide +kernel
theorem dX2_beginAt_73 : decode cX2_beginAt 73 = .ok (.putfield 74, 3) := by decide +kernel
theorem dX2_beginAt_76 : decode cX2_beginAt 76 = .ok (.aload_n 0, 1) := by decide +kernel
theorem dX2_beginAt_77 : decode cX2_beginAt 77 = .ok (.dup, 1) := by decide +kernel
theorem dX2_beginAt_78 : decode cX2_beginAt 78 = .ok (.getfield 77, 3) := by decide +kernel
theorem dX2_beginAt_81 : decode cX2_beginAt 81 = .ok (.aload_n 0, 1) := by decide +kernel
theorem dX2_beginAt_82 : decode cX2_beginAt 82 = .ok (.getfield 11, 3) := by decide +kernel
theorem dX2_beginAt_85 : decode cX2_beginAt 85 = .ok (.iload 5, 2) := by decide +kernel
theorem dX2_beginAt_87 : decode cX2_beginAt 87 = .ok (.aaload, 1) := by decide +kernel
theorem dX2_beginAt_88 : decode cX2_beginAt 88 = .ok (.getfield 102, 3) := by decide +kernel
theorem dX2_beginAt_91 : decode cX2_beginAt 91 = .ok (.isub, 1) := by decide +kernel
theorem dX2_beginAt_92 : decode cX2_beginAt 92 = .ok (.putfield 77, 3) := by decide +kernel
theorem dX2_beginAt_95 : decode cX2_beginAt 95 = .ok (.aload_n 2, 1) := by decide +kernel
theorem dX2_beginAt_96 : decode cX2_beginAt 96 = .ok (.getfield 59, 3) := by decide +kernel
theorem dX2_beginAt_99 : decode cX2_beginAt 99 = .ok (.iload 5, 2) := by decide +kernel
theorem dX2_beginAt_101 : decode cX2_beginAt 101 = .ok (.iload_n 1, 1) := by decide +kernel
theorem dX2_beginAt_102 : decode cX2_beginAt 102 = .ok (.iastore, 1) := by decide +kernel
theorem dX2_beginAt_103 : decode cX2_beginAt 103 = .ok (.aload_n 0, 1) := by decide +kernel
theorem dX2_beginAt_104 : decode cX2_beginAt 104 = .ok (.getfield 37, 3) := by decide +kernel
theorem dX2_beginAt_107 : decode cX2_beginAt 107 = .ok (.iload 5, 2) := by decide +kernel
theorem dX2_beginAt_109 : decode cX2_beginAt 109 = .ok (.iload_n 1, 1) := by decide +kernel
theorem dX2_beginAt_110 : decode cX2_beginAt 110 = .ok (.aload_n 2, 1) := by decide +kernel
theorem dX2_beginAt_111 : decode cX2_beginAt 111 = .ok (.getfield 46, 3) := by decide +kernel
theorem dX2_beginAt_114 : decode cX2_beginAt 114 = .ok (.iload 5, 2) := by decide +kernel
theorem dX2_beginAt_116 : decode cX2_beginAt 116 = .ok (.iaload, 1) := by decide +kernel
theorem dX2_beginAt_117 : decode cX2_beginAt 117 = .ok (.iadd, 1) := by decide +kernel
theorem dX2_beginAt_118 : decode cX2_beginAt 118 = .ok (.iastore, 1) := by decide +kernel
theorem dX2_beginAt_119 : decode cX2_beginAt 119 = .ok (.iinc 4 1, 3) := by decide +kernel
theorem dX2_beginAt_122 : decode cX2_beginAt 122 = .ok (.goto (-119), 3) := by decide +kernel
theorem dX2_beginAt_125 : decode cX2_beginAt 125 = .ok (.return_, 1) := by decide +kernel
theorem dX2_canBegin_0 : decode cX2_canBegin 0 = .ok (.aload_n 1, 1) := by decide +kernel
theorem dX2_canBegin_1 : decode cX2_canBegin 1 = .ok (.getfield 105, 3) := by decide +kernel
theorem dX2_canBegin_4 : decode cX2_canBegin 4 = .ok (.aload_n 0, 1) := by decide +kernel
theorem dX2_canBegin_5 : decode cX2_canBegin 5 = .ok (.getfield 71, 3) := by decide +kernel
theorem dX2_canBegin_8 : decode cX2_canBegin 8 = .ok (.iconst (-1), 1) := by decide +kernel
theorem dX2_canBegin_9 : decode cX2_canBegin 9 = .ok (.ixor, 1) := by decide +kernel
theorem dX2_canBegin_10 : decode cX2_canBegin 10 = .ok (.iand, 1) := by decide +kernel
theorem dX2_canBegin_11 : decode cX2_canBegin 11 = .ok (.ifCond .ne 30, 3) := by decide +kernel
theorem dX2_canBegin_14 : decode cX2_canBegin 14 = .ok (.aload_n 1, 1) := by decide +kernel
theorem dX2_canBegin_15 : decode cX2_canBegin 15 = .ok (.getfield 99, 3) := by decide +kernel
theorem dX2_canBegin_18 : decode cX2_canBegin 18 = .ok (.aload_n 0, 1) := by decide +kernel
theorem dX2_canBegin_19 : decode cX2_canBegin 19 = .ok (.getfield 74, 3) := by decide +kernel
theorem dX2_canBegin_22 : decode cX2_canBegin 22 = .ok (.iand, 1) := by decide +kernel
theorem dX2_canBegin_23 : decode cX2_canBegin 23 = .ok (.ifCond .ne 18, 3) := by decide +kernel
theorem dX2_canBegin_26 : decode cX2_canBegin 26 = .ok (.aload_n 1, 1) := by decide +kernel
theorem dX2_canBegin_27 : decode cX2_canBegin 27 = .ok (.getfield 102, 3) := by decide +kernel
theorem dX2_canBegin_30 : decode cX2_canBegin 30 = .ok (.aload_n 0, 1) := by decide +kernel
theorem dX2_canBegin_31 : decode cX2_canBegin 31 = .ok (.getfield 77, 3) := by decide +kernel
theorem dX2_canBegin_34 : decode cX2_canBegin 34 = .ok (.if_icmp .gt 7, 3) := by decide +kernel
theorem dX2_canBegin_37 : decode cX2_canBegin 37 = .ok (.iconst 1, 1) := by decide +kernel
theorem dX2_canBegin_38 : decode cX2_canBegin 38 = .ok (.goto 4, 3) := by decide +kernel
theorem dX2_canBegin_41 : decode cX2_canBegin 41 = .ok (.iconst 0, 1) := by decide +kernel
theorem dX2_canBegin_42 : decode cX2_canBegin 42 = .ok (.ireturn, 1) := by decide +kernel
theorem dX2_nextStop_0 : decode cX2_nextStop 0 = .ok (.ldc 108, 2) := by decide +kernel
theorem dX2_nextStop_2 : decode cX2_nextStop 2 = .ok (.istore_n 1, 1) := by decide +kernel
theorem dX2_nextStop_3 : decode cX2_nextStop 3 = .ok (.iconst 0, 1) := by decide +kernel
theorem dX2_nextStop_4 : decode cX2_nextStop 4 = .ok (.istore_n 2, 1) := by decide +kernel
theorem dX2_nextStop_5 : decode cX2_nextStop 5 = .ok (.iload_n 2, 1) := by decide +kernel
theorem dX2_nextStop_6 : decode cX2_nextStop 6 = .ok (.aload_n 0, 1) := by decide +kernel
theorem dX2_nextStop_7 : decode cX2_nextStop 7 = .ok (.getfield 27, 3) := by decide +kernel
theorem dX2_nextStop_10 : decode cX2_nextStop 10 = .ok (.if_icmp .ge 28, 3) := by decide +kernel
theorem dX2_nextStop_13 : decode cX2_nextStop 13 = .ok (.aload_n 0, 1) := by decide +kernel
theorem dX2_nextStop_14 : decode cX2_nextStop 14 = .ok (.iload_n 2, 1) := by decide +kernel
theorem dX2_nextStop_15 : decode cX2_nextStop 15 = .ok (.invokevirtual 109, 3) := by decide +kernel
theorem dX2_nextStop_18 : decode cX2_nextStop 18 = .ok (.ifCond .eq 14, 3) := by decide +kernel
theorem dX2_nextStop_21 : decode cX2_nextStop 21 = .ok (.iload_n 1, 1) := by decide +kernel
theorem dX2_nextStop_22 : decode cX2_nextStop 22 = .ok (.aload_n 0, 1) := by decide +kernel
theorem dX2_nextStop_23 : decode cX2_nextStop 23 = .ok (.getfield 37, 3) := by decide +kernel
theorem dX2_nextStop_26 : decode cX2_nextStop 26 = .ok (.iload_n 2, 1) := by decide +kernel
theorem dX2_nextStop_27 : decode cX2_nextStop 27 = .ok (.iaload, 1) := by decide +kernel
theorem dX2_nextStop_28 : decode cX2_nextStop 28 = .ok (.invokestatic 113, 3) := by decide +kernel
theorem dX2_nextStop_31 : decode cX2_nextStop 31 = .ok (.istore_n 1, 1) := by decide +kernel
theorem dX2_nextStop_32 : decode cX2_nextStop 32 = .ok (.iinc 2 1, 3) := by decide +kernel
theorem dX2_nextStop_35 : decode cX2_nextStop 35 = .ok (.goto (-30), 3) := by decide +kernel
theorem dX2_nextStop_38 : decode cX2_nextStop 38 = .ok (.iload_n 1, 1) := by decide +kernel
theorem dX2_nextStop_39 : decode cX2_nextStop 39 = .ok (.ireturn, 1) := by decide +kernel
theorem dX2_endAt_0 : decode cX2_endAt 0 = .ok (.iconst 0, 1) := by decide +kernel
theorem dX2_endAt_1 : decode cX2_endAt 1 = .ok (.istore_n 2, 1) := by decide +kernel
theorem dX2_endAt_2 : decode cX2_endAt 2 = .ok (.iload_n 2, 1) := by decide +kernel
theorem dX2_endAt_3 : decode cX2_endAt 3 = .ok (.aload_n 0, 1) := by decide +kernel
theorem dX2_endAt_4 : decode cX2_endAt 4 = .ok (.getfield 27, 3) := by decide +kernel
theorem dX2_endAt_7 : decode cX2_endAt 7 = .ok (.if_icmp .ge 77, 3) := by decide +kernel
theorem dX2_endAt_10 : decode cX2_endAt 10 = .ok (.aload_n 0, 1) := by decide +kernel
theorem dX2_endAt_11 : decode cX2_endAt 11 = .ok (.iload_n 2, 1) := by decide +kernel
theorem dX2_endAt_12 : decode cX2_endAt 12 = .ok (.invokevirtual 109, 3) := by decide +kernel
theorem dX2_endAt_15 : decode cX2_endAt 15 = .ok (.ifCond .eq 63, 3) := by decide +kernel
theorem dX2_endAt_18 : decode cX2_endAt 18 = .ok (.aload_n 0, 1) := by decide +kernel
theorem dX2_endAt_19 : decode cX2_endAt 19 = .ok (.getfield 37, 3) := by decide +kernel
theorem dX2_endAt_22 : decode cX2_endAt 22 = .ok (.iload_n 2, 1) := by decide +kernel
theorem dX2_endAt_23 : decode cX2_endAt 23 = .ok (.iaload, 1) := by decide +kernel
theorem dX2_endAt_24 : decode cX2_endAt 24 = .ok (.iload_n 1, 1) := by decide +kernel
theorem dX2_endAt_25 : decode cX2_endAt 25 = .ok (.if_icmp .ne 53, 3) := by decide +kernel
theorem dX2_endAt_28 : decode cX2_endAt 28 = .ok (.aload_n 0, 1) := by decide +kernel
theorem dX2_endAt_29 : decode cX2_endAt 29 = .ok (.dup, 1) := by decide +kernel
theorem dX2_endAt_30 : decode cX2_endAt 30 = .ok (.getfield 71, 3) := by decide +kernel
theorem dX2_endAt_33 : decode cX2_endAt 33 = .ok (.iconst 1, 1) := by decide +kernel
theorem dX2_endAt_34 : decode cX2_endAt 34 = .ok (.iload_n 2, 1) := by decide +kernel
theorem dX2_endAt_35 : decode cX2_endAt 35 = .ok (.ishl, 1) := by decide +kernel
theorem dX2_endAt_36 : decode cX2_endAt 36 = .ok (.ior, 1) := by decide +kernel
theorem dX2_endAt_37 : decode cX2_endAt 37 = .ok (.putfield 71, 3) := by decide +kernel
theorem dX2_endAt_40 : decode cX2_endAt 40 = .ok (.aload_n 0, 1) := by decide +kernel
theorem dX2_endAt_41 : decode cX2_endAt 41 = .ok (.dup, 1) := by decide +kernel
theorem dX2_endAt_42 : decode cX2_endAt 42 = .ok (.getfield 74, 3) := by decide +kernel
theorem dX2_endAt_45 : decode cX2_endAt 45 = .ok (.aload_n 0, 1) := by decide +kernel
theorem dX2_endAt_46 : decode cX2_endAt 46 = .ok (.getfield 11, 3) := by decide +kernel
theorem dX2_endAt_49 : decode cX2_endAt 49 = .ok (.iload_n 2, 1) := by decide +kernel
theorem dX2_endAt_50 : decode cX2_endAt 50 = .ok (.aaload, 1) := by decide +kernel
theorem dX2_endAt_51 : decode cX2_endAt 51 = .ok (.getfield 99, 3) := by decide +kernel
theorem dX2_endAt_54 : decode cX2_endAt 54 = .ok (.iconst (-1), 1) := by decide +kernel
theorem dX2_endAt_55 : decode cX2_endAt 55 = .ok (.ixor, 1) := by decide +kernel
theorem dX2_endAt_56 : decode cX2_endAt 56 = .ok (.iand, 1) := by decide +kernel
theorem dX2_endAt_57 : decode cX2_endAt 57 = .ok (.putfield 74, 3) := by decide +kernel
theorem dX2_endAt_60 : decode cX2_endAt 60 = .ok (.aload_n 0, 1) := by decide +kernel
theorem dX2_endAt_61 : decode cX2_endAt 61 = .ok (.dup, 1) := by decide +kernel
theorem dX2_endAt_62 : decode cX2_endAt 62 = .ok (.getfield 77, 3) := by decide +kernel
theorem dX2_endAt_65 : decode cX2_endAt 65 = .ok (.aload_n 0, 1) := by decide +kernel
theorem dX2_endAt_66 : decode cX2_endAt 66 = .ok (.getfield 11, 3) := by decide +kernel
theorem dX2_endAt_69 : decode cX2_endAt 69 = .ok (.iload_n 2, 1) := by decide +kernel
theorem dX2_endAt_70 : decode cX2_endAt 70 = .ok (.aaload, 1) := by decide +kernel
theorem dX2_endAt_71 : decode cX2_endAt 71 = .ok (.getfield 102, 3) := by decide +kernel
theorem dX2_endAt_74 : decode cX2_endAt 74 = .ok (.iadd, 1) := by decide +kernel
theorem dX2_endAt_75 : decode cX2_endAt 75 = .ok (.putfield 77, 3) := by decide +kernel
theorem dX2_endAt_78 : decode cX2_endAt 78 = .ok (.iinc 2 1, 3) := by decide +kernel
theorem dX2_endAt_81 : decode cX2_endAt 81 = .ok (.goto (-79), 3) := by decide +kernel
theorem dX2_endAt_84 : decode cX2_endAt 84 = .ok (.return_, 1) := by decide +kernel
theorem dX2_isRunning_0 : decode cX2_isRunning 0 = .ok (.aload_n 0, 1) := by decide +kernel
theorem dX2_isRunning_1 : decode cX2_isRunning 1 = .ok (.getfield 68, 3) := by decide +kernel
theorem dX2_isRunning_4 : decode cX2_isRunning 4 = .ok (.aload_n 0, 1) := by decide +kernel
theorem dX2_isRunning_5 : decode cX2_isRunning 5 = .ok (.getfield 71, 3) := by decide +kernel
theorem dX2_isRunning_8 : decode cX2_isRunning 8 = .ok (.iconst (-1), 1) := by decide +kernel
theorem dX2_isRunning_9 : decode cX2_isRunning 9 = .ok (.ixor, 1) := by decide +kernel
theorem dX2_isRunning_10 : decode cX2_isRunning 10 = .ok (.iand, 1) := by decide +kernel
theorem dX2_isRunning_11 : decode cX2_isRunning 11 = .ok (.iconst 1, 1) := by decide +kernel
theorem dX2_isRunning_12 : decode cX2_isRunning 12 = .ok (.iload_n 1, 1) := by decide +kernel
theorem dX2_isRunning_13 : decode cX2_isRunning 13 = .ok (.ishl, 1) := by decide +kernel
theorem dX2_isRunning_14 : decode cX2_isRunning 14 = .ok (.iand, 1) := by decide +kernel
theorem dX2_isRunning_15 : decode cX2_isRunning 15 = .ok (.ifCond .eq 7, 3) := by decide +kernel
theorem dX2_isRunning_18 : decode cX2_isRunning 18 = .ok (.iconst 1, 1) := by decide +kernel
theorem dX2_isRunning_19 : decode cX2_isRunning 19 = .ok (.goto 4, 3) := by decide +kernel
theorem dX2_isRunning_22 : decode cX2_isRunning 22 = .ok (.iconst 0, 1) := by decide +kernel
theorem dX2_isRunning_23 : decode cX2_isRunning 23 = .ok (.ireturn, 1) := by decide +kernel
theorem dX2_walkDraws_0 : decode cX2_walkDraws 0 = .ok (.iconst 0, 1) := by decide +kernel
theorem dX2_walkDraws_1 : decode cX2_walkDraws 1 = .ok (.istore_n 1, 1) := by decide +kernel
theorem dX2_walkDraws_2 : decode cX2_walkDraws 2 = .ok (.iload_n 1, 1) := by decide +kernel
theorem dX2_walkDraws_3 : decode cX2_walkDraws 3 = .ok (.aload_n 0, 1) := by decide +kernel
theorem dX2_walkDraws_4 : decode cX2_walkDraws 4 = .ok (.getfield 31, 3) := by decide +kernel
theorem dX2_walkDraws_7 : decode cX2_walkDraws 7 = .ok (.if_icmp .ge 21, 3) := by decide +kernel
theorem dX2_walkDraws_10 : decode cX2_walkDraws 10 = .ok (.aload_n 0, 1) := by decide +kernel
theorem dX2_walkDraws_11 : decode cX2_walkDraws 11 = .ok (.iconst 2, 1) := by decide +kernel
theorem dX2_walkDraws_12 : decode cX2_walkDraws 12 = .ok (.iload_n 1, 1) := by decide +kernel
theorem dX2_walkDraws_13 : decode cX2_walkDraws 13 = .ok (.iadd, 1) := by decide +kernel
theorem dX2_walkDraws_14 : decode cX2_walkDraws 14 = .ok (.aload_n 0, 1) := by decide +kernel
theorem dX2_walkDraws_15 : decode cX2_walkDraws 15 = .ok (.getfield 17, 3) := by decide +kernel
theorem dX2_walkDraws_18 : decode cX2_walkDraws 18 = .ok (.invokevirtual 119, 3) := by decide +kernel
theorem dX2_walkDraws_21 : decode cX2_walkDraws 21 = .ok (.pop, 1) := by decide +kernel
theorem dX2_walkDraws_22 : decode cX2_walkDraws 22 = .ok (.iinc 1 1, 3) := by decide +kernel
theorem dX2_walkDraws_25 : decode cX2_walkDraws 25 = .ok (.goto (-23), 3) := by decide +kernel
theorem dX2_walkDraws_28 : decode cX2_walkDraws 28 = .ok (.return_, 1) := by decide +kernel
theorem dX2_drawsWithin_0 : decode cX2_drawsWithin 0 = .ok (.iconst 0, 1) := by decide +kernel
theorem dX2_drawsWithin_1 : decode cX2_drawsWithin 1 = .ok (.istore_n 2, 1) := by decide +kernel
theorem dX2_drawsWithin_2 : decode cX2_drawsWithin 2 = .ok (.iconst 0, 1) := by decide +kernel
theorem dX2_drawsWithin_3 : decode cX2_drawsWithin 3 = .ok (.istore_n 3, 1) := by decide +kernel
theorem dX2_drawsWithin_4 : decode cX2_drawsWithin 4 = .ok (.iload_n 3, 1) := by decide +kernel
theorem dX2_drawsWithin_5 : decode cX2_drawsWithin 5 = .ok (.aload_n 0, 1) := by decide +kernel
theorem dX2_drawsWithin_6 : decode cX2_drawsWithin 6 = .ok (.getfield 31, 3) := by decide +kernel
theorem dX2_drawsWithin_9 : decode cX2_drawsWithin 9 = .ok (.if_icmp .ge 37, 3) := by decide +kernel
theorem dX2_drawsWithin_12 : decode cX2_drawsWithin 12 = .ok (.aload_n 0, 1) := by decide +kernel
theorem dX2_drawsWithin_13 : decode cX2_drawsWithin 13 = .ok (.getfield 23, 3) := by decide +kernel
theorem dX2_drawsWithin_16 : decode cX2_drawsWithin 16 = .ok (.iconst 2, 1) := by decide +kernel
theorem dX2_drawsWithin_17 : decode cX2_drawsWithin 17 = .ok (.iload_n 3, 1) := by decide +kernel
theorem dX2_drawsWithin_18 : decode cX2_drawsWithin 18 = .ok (.iadd, 1) := by decide +kernel
theorem dX2_drawsWithin_19 : decode cX2_drawsWithin 19 = .ok (.aaload, 1) := by decide +kernel
theorem dX2_drawsWithin_20 : decode cX2_drawsWithin 20 = .ok (.getfield 92, 3) := by decide +kernel
theorem dX2_drawsWithin_23 : decode cX2_drawsWithin 23 = .ok (.istore 4, 2) := by decide +kernel
theorem dX2_drawsWithin_25 : decode cX2_drawsWithin 25 = .ok (.iload 4, 2) := by decide +kernel
theorem dX2_drawsWithin_27 : decode cX2_drawsWithin 27 = .ok (.iconst (-1), 1) := by decide +kernel
theorem dX2_drawsWithin_28 : decode cX2_drawsWithin 28 = .ok (.if_icmp .eq 12, 3) := by decide +kernel
theorem dX2_drawsWithin_31 : decode cX2_drawsWithin 31 = .ok (.iload 4, 2) := by decide +kernel
theorem dX2_drawsWithin_33 : decode cX2_drawsWithin 33 = .ok (.iload_n 1, 1) := by decide +kernel
theorem dX2_drawsWithin_34 : decode cX2_drawsWithin 34 = .ok (.if_icmp .gt 6, 3) := by decide +kernel
theorem dX2_drawsWithin_37 : decode cX2_drawsWithin 37 = .ok (.iinc 2 1, 3) := by decide +kernel
theorem dX2_drawsWithin_40 : decode cX2_drawsWithin 40 = .ok (.iinc 3 1, 3) := by decide +kernel
theorem dX2_drawsWithin_43 : decode cX2_drawsWithin 43 = .ok (.goto (-39), 3) := by decide +kernel
theorem dX2_drawsWithin_46 : decode cX2_drawsWithin 46 = .ok (.iload_n 2, 1) := by decide +kernel
theorem dX2_drawsWithin_47 : decode cX2_drawsWithin 47 = .ok (.ireturn, 1) := by decide +kernel
theorem dX2_lateEnds_0 : decode cX2_lateEnds 0 = .ok (.iconst 0, 1) := by decide +kernel
theorem dX2_lateEnds_1 : decode cX2_lateEnds 1 = .ok (.istore_n 2, 1) := by decide +kernel
theorem dX2_lateEnds_2 : decode cX2_lateEnds 2 = .ok (.iconst 0, 1) := by decide +kernel
theorem dX2_lateEnds_3 : decode cX2_lateEnds 3 = .ok (.istore_n 3, 1) := by decide +kernel
theorem dX2_lateEnds_4 : decode cX2_lateEnds 4 = .ok (.iload_n 3, 1) := by decide +kernel
theorem dX2_lateEnds_5 : decode cX2_lateEnds 5 = .ok (.aload_n 0, 1) := by decide +kernel
theorem dX2_lateEnds_6 : decode cX2_lateEnds 6 = .ok (.getfield 31, 3) := by decide +kernel
theorem dX2_lateEnds_9 : decode cX2_lateEnds 9 = .ok (.if_icmp .ge 41, 3) := by decide +kernel
theorem dX2_lateEnds_12 : decode cX2_lateEnds 12 = .ok (.aload_n 0, 1) := by decide +kernel
theorem dX2_lateEnds_13 : decode cX2_lateEnds 13 = .ok (.getfield 23, 3) := by decide +kernel
theorem dX2_lateEnds_16 : decode cX2_lateEnds 16 = .ok (.iconst 2, 1) := by decide +kernel
theorem dX2_lateEnds_17 : decode cX2_lateEnds 17 = .ok (.iload_n 3, 1) := by decide +kernel
theorem dX2_lateEnds_18 : decode cX2_lateEnds 18 = .ok (.iadd, 1) := by decide +kernel
theorem dX2_lateEnds_19 : decode cX2_lateEnds 19 = .ok (.aaload, 1) := by decide +kernel
theorem dX2_lateEnds_20 : decode cX2_lateEnds 20 = .ok (.getfield 92, 3) := by decide +kernel
theorem dX2_lateEnds_23 : decode cX2_lateEnds 23 = .ok (.istore 4, 2) := by decide +kernel
theorem dX2_lateEnds_25 : decode cX2_lateEnds 25 = .ok (.iload 4, 2) := by decide +kernel
theorem dX2_lateEnds_27 : decode cX2_lateEnds 27 = .ok (.iconst (-1), 1) := by decide +kernel
theorem dX2_lateEnds_28 : decode cX2_lateEnds 28 = .ok (.if_icmp .ne 5, 3) := by decide +kernel
theorem dX2_lateEnds_31 : decode cX2_lateEnds 31 = .ok (.iconst (-1), 1) := by decide +kernel
theorem dX2_lateEnds_32 : decode cX2_lateEnds 32 = .ok (.ireturn, 1) := by decide +kernel
theorem dX2_lateEnds_33 : decode cX2_lateEnds 33 = .ok (.iload_n 2, 1) := by decide +kernel
theorem dX2_lateEnds_34 : decode cX2_lateEnds 34 = .ok (.iconst 0, 1) := by decide +kernel
theorem dX2_lateEnds_35 : decode cX2_lateEnds 35 = .ok (.iload 4, 2) := by decide +kernel
theorem dX2_lateEnds_37 : decode cX2_lateEnds 37 = .ok (.iload_n 1, 1) := by decide +kernel
theorem dX2_lateEnds_38 : decode cX2_lateEnds 38 = .ok (.isub, 1) := by decide +kernel
theorem dX2_lateEnds_39 : decode cX2_lateEnds 39 = .ok (.invokestatic 123, 3) := by decide +kernel
theorem dX2_lateEnds_42 : decode cX2_lateEnds 42 = .ok (.iadd, 1) := by decide +kernel
theorem dX2_lateEnds_43 : decode cX2_lateEnds 43 = .ok (.istore_n 2, 1) := by decide +kernel
theorem dX2_lateEnds_44 : decode cX2_lateEnds 44 = .ok (.iinc 3 1, 3) := by decide +kernel
theorem dX2_lateEnds_47 : decode cX2_lateEnds 47 = .ok (.goto (-43), 3) := by decide +kernel
theorem dX2_lateEnds_50 : decode cX2_lateEnds 50 = .ok (.aload_n 0, 1) := by decide +kernel
theorem dX2_lateEnds_51 : decode cX2_lateEnds 51 = .ok (.getfield 31, 3) := by decide +kernel
theorem dX2_lateEnds_54 : decode cX2_lateEnds 54 = .ok (.ifCond .ne 7, 3) := by decide +kernel
theorem dX2_lateEnds_57 : decode cX2_lateEnds 57 = .ok (.iconst (-1), 1) := by decide +kernel
theorem dX2_lateEnds_58 : decode cX2_lateEnds 58 = .ok (.goto 4, 3) := by decide +kernel
theorem dX2_lateEnds_61 : decode cX2_lateEnds 61 = .ok (.iload_n 2, 1) := by decide +kernel
theorem dX2_lateEnds_62 : decode cX2_lateEnds 62 = .ok (.ireturn, 1) := by decide +kernel
theorem dX2_lateBacks_0 : decode cX2_lateBacks 0 = .ok (.iconst 0, 1) := by decide +kernel
theorem dX2_lateBacks_1 : decode cX2_lateBacks 1 = .ok (.istore_n 3, 1) := by decide +kernel
theorem dX2_lateBacks_2 : decode cX2_lateBacks 2 = .ok (.iconst 0, 1) := by decide +kernel
theorem dX2_lateBacks_3 : decode cX2_lateBacks 3 = .ok (.istore 4, 2) := by decide +kernel
theorem dX2_lateBacks_5 : decode cX2_lateBacks 5 = .ok (.iload 4, 2) := by decide +kernel
theorem dX2_lateBacks_7 : decode cX2_lateBacks 7 = .ok (.aload_n 0, 1) := by decide +kernel
theorem dX2_lateBacks_8 : decode cX2_lateBacks 8 = .ok (.getfield 31, 3) := by decide +kernel
theorem dX2_lateBacks_11 : decode cX2_lateBacks 11 = .ok (.if_icmp .ge 44, 3) := by decide +kernel
theorem dX2_lateBacks_14 : decode cX2_lateBacks 14 = .ok (.aload_n 0, 1) := by decide +kernel
theorem dX2_lateBacks_15 : decode cX2_lateBacks 15 = .ok (.iload_n 1, 1) := by decide +kernel
theorem dX2_lateBacks_16 : decode cX2_lateBacks 16 = .ok (.aload_n 0, 1) := by decide +kernel
theorem dX2_lateBacks_17 : decode cX2_lateBacks 17 = .ok (.getfield 23, 3) := by decide +kernel
theorem dX2_lateBacks_20 : decode cX2_lateBacks 20 = .ok (.iconst 2, 1) := by decide +kernel
theorem dX2_lateBacks_21 : decode cX2_lateBacks 21 = .ok (.iload 4, 2) := by decide +kernel
theorem dX2_lateBacks_23 : decode cX2_lateBacks 23 = .ok (.iadd, 1) := by decide +kernel
theorem dX2_lateBacks_24 : decode cX2_lateBacks 24 = .ok (.aaload, 1) := by decide +kernel
theorem dX2_lateBacks_25 : decode cX2_lateBacks 25 = .ok (.invokevirtual 126, 3) := by decide +kernel
theorem dX2_lateBacks_28 : decode cX2_lateBacks 28 = .ok (.istore 5, 2) := by decide +kernel
theorem dX2_lateBacks_30 : decode cX2_lateBacks 30 = .ok (.iload 5, 2) := by decide +kernel
theorem dX2_lateBacks_32 : decode cX2_lateBacks 32 = .ok (.iconst (-1), 1) := by decide +kernel
theorem dX2_lateBacks_33 : decode cX2_lateBacks 33 = .ok (.if_icmp .ne 5, 3) := by decide +kernel
theorem dX2_lateBacks_36 : decode cX2_lateBacks 36 = .ok (.iconst (-1), 1) := by decide +kernel
theorem dX2_lateBacks_37 : decode cX2_lateBacks 37 = .ok (.ireturn, 1) := by decide +kernel
theorem dX2_lateBacks_38 : decode cX2_lateBacks 38 = .ok (.iload_n 3, 1) := by decide +kernel
theorem dX2_lateBacks_39 : decode cX2_lateBacks 39 = .ok (.iconst 0, 1) := by decide +kernel
theorem dX2_lateBacks_40 : decode cX2_lateBacks 40 = .ok (.iload 5, 2) := by decide +kernel
theorem dX2_lateBacks_42 : decode cX2_lateBacks 42 = .ok (.iload_n 2, 1) := by decide +kernel
theorem dX2_lateBacks_43 : decode cX2_lateBacks 43 = .ok (.isub, 1) := by decide +kernel
theorem dX2_lateBacks_44 : decode cX2_lateBacks 44 = .ok (.invokestatic 123, 3) := by decide +kernel
theorem dX2_lateBacks_47 : decode cX2_lateBacks 47 = .ok (.iadd, 1) := by decide +kernel
theorem dX2_lateBacks_48 : decode cX2_lateBacks 48 = .ok (.istore_n 3, 1) := by decide +kernel
theorem dX2_lateBacks_49 : decode cX2_lateBacks 49 = .ok (.iinc 4 1, 3) := by decide +kernel
theorem dX2_lateBacks_52 : decode cX2_lateBacks 52 = .ok (.goto (-47), 3) := by decide +kernel
theorem dX2_lateBacks_55 : decode cX2_lateBacks 55 = .ok (.aload_n 0, 1) := by decide +kernel
theorem dX2_lateBacks_56 : decode cX2_lateBacks 56 = .ok (.getfield 31, 3) := by decide +kernel
theorem dX2_lateBacks_59 : decode cX2_lateBacks 59 = .ok (.ifCond .ne 7, 3) := by decide +kernel
theorem dX2_lateBacks_62 : decode cX2_lateBacks 62 = .ok (.iconst (-1), 1) := by decide +kernel
theorem dX2_lateBacks_63 : decode cX2_lateBacks 63 = .ok (.goto 4, 3) := by decide +kernel
theorem dX2_lateBacks_66 : decode cX2_lateBacks 66 = .ok (.iload_n 3, 1) := by decide +kernel
theorem dX2_lateBacks_67 : decode cX2_lateBacks 67 = .ok (.ireturn, 1) := by decide +kernel
theorem dX2_backFrom_0 : decode cX2_backFrom 0 = .ok (.iload_n 1, 1) := by decide +kernel
theorem dX2_backFrom_1 : decode cX2_backFrom 1 = .ok (.istore_n 3, 1) := by decide +kernel
theorem dX2_backFrom_2 : decode cX2_backFrom 2 = .ok (.iconst 0, 1) := by decide +kernel
theorem dX2_backFrom_3 : decode cX2_backFrom 3 = .ok (.istore 4, 2) := by decide +kernel
theorem dX2_backFrom_5 : decode cX2_backFrom 5 = .ok (.iload 4, 2) := by decide +kernel
theorem dX2_backFrom_7 : decode cX2_backFrom 7 = .ok (.aload_n 0, 1) := by decide +kernel
theorem dX2_backFrom_8 : decode cX2_backFrom 8 = .ok (.getfield 27, 3) := by decide +kernel
theorem dX2_backFrom_11 : decode cX2_backFrom 11 = .ok (.if_icmp .ge 60, 3) := by decide +kernel
theorem dX2_backFrom_14 : decode cX2_backFrom 14 = .ok (.aload_n 2, 1) := by decide +kernel
theorem dX2_backFrom_15 : decode cX2_backFrom 15 = .ok (.getfield 59, 3) := by decide +kernel
theorem dX2_backFrom_18 : decode cX2_backFrom 18 = .ok (.iload 4, 2) := by decide +kernel
theorem dX2_backFrom_20 : decode cX2_backFrom 20 = .ok (.iaload, 1) := by decide +kernel
theorem dX2_backFrom_21 : decode cX2_backFrom 21 = .ok (.iconst (-1), 1) := by decide +kernel
theorem dX2_backFrom_22 : decode cX2_backFrom 22 = .ok (.if_icmp .eq 43, 3) := by decide +kernel
theorem dX2_backFrom_25 : decode cX2_backFrom 25 = .ok (.aload_n 2, 1) := by decide +kernel
theorem dX2_backFrom_26 : decode cX2_backFrom 26 = .ok (.getfield 59, 3) := by decide +kernel
theorem dX2_backFrom_29 : decode cX2_backFrom 29 = .ok (.iload 4, 2) := by decide +kernel
theorem dX2_backFrom_31 : decode cX2_backFrom 31 = .ok (.iaload, 1) := by decide +kernel
theorem dX2_backFrom_32 : decode cX2_backFrom 32 = .ok (.iload_n 1, 1) := by decide +kernel
theorem dX2_backFrom_33 : decode cX2_backFrom 33 = .ok (.if_icmp .ge 32, 3) := by decide +kernel
theorem dX2_backFrom_36 : decode cX2_backFrom 36 = .ok (.aload_n 0, 1) := by decide +kernel
theorem dX2_backFrom_37 : decode cX2_backFrom 37 = .ok (.getfield 11, 3) := by decide +kernel
theorem dX2_backFrom_40 : decode cX2_backFrom 40 = .ok (.iload 4, 2) := by decide +kernel
theorem dX2_backFrom_42 : decode cX2_backFrom 42 = .ok (.aaload, 1) := by decide +kernel
theorem dX2_backFrom_43 : decode cX2_backFrom 43 = .ok (.getfield 130, 3) := by decide +kernel
theorem dX2_backFrom_46 : decode cX2_backFrom 46 = .ok (.iconst (-1), 1) := by decide +kernel
theorem dX2_backFrom_47 : decode cX2_backFrom 47 = .ok (.if_icmp .ne 5, 3) := by decide +kernel
theorem dX2_backFrom_50 : decode cX2_backFrom 50 = .ok (.iconst (-1), 1) := by decide +kernel
theorem dX2_backFrom_51 : decode cX2_backFrom 51 = .ok (.ireturn, 1) := by decide +kernel
theorem dX2_backFrom_52 : decode cX2_backFrom 52 = .ok (.iload_n 3, 1) := by decide +kernel
theorem dX2_backFrom_53 : decode cX2_backFrom 53 = .ok (.aload_n 0, 1) := by decide +kernel
theorem dX2_backFrom_54 : decode cX2_backFrom 54 = .ok (.getfield 11, 3) := by decide +kernel
theorem dX2_backFrom_57 : decode cX2_backFrom 57 = .ok (.iload 4, 2) := by decide +kernel
theorem dX2_backFrom_59 : decode cX2_backFrom 59 = .ok (.aaload, 1) := by decide +kernel
theorem dX2_backFrom_60 : decode cX2_backFrom 60 = .ok (.getfield 130, 3) := by decide +kernel
theorem dX2_backFrom_63 : decode cX2_backFrom 63 = .ok (.iadd, 1) := by decide +kernel
theorem dX2_backFrom_64 : decode cX2_backFrom 64 = .ok (.istore_n 3, 1) := by decide +kernel
theorem dX2_backFrom_65 : decode cX2_backFrom 65 = .ok (.iinc 4 1, 3) := by decide +kernel
theorem dX2_backFrom_68 : decode cX2_backFrom 68 = .ok (.goto (-63), 3) := by decide +kernel
theorem dX2_backFrom_71 : decode cX2_backFrom 71 = .ok (.iload_n 3, 1) := by decide +kernel
theorem dX2_backFrom_72 : decode cX2_backFrom 72 = .ok (.ireturn, 1) := by decide +kernel
