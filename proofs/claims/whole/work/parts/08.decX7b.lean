theorem dX7_work_187 : decode cX7_work 187 = .ok (.invokevirtual 136, 3) := by decide +kernel
theorem dX7_work_190 : decode cX7_work 190 = .ok (.aload_n 0, 1) := by decide +kernel
theorem dX7_work_191 : decode cX7_work 191 = .ok (.getfield 95, 3) := by decide +kernel
theorem dX7_work_194 : decode cX7_work 194 = .ok (.ifCond .le 11, 3) := by decide +kernel
theorem dX7_work_197 : decode cX7_work 197 = .ok (.aload_n 0, 1) := by decide +kernel
theorem dX7_work_198 : decode cX7_work 198 = .ok (.getfield 95, 3) := by decide +kernel
theorem dX7_work_201 : decode cX7_work 201 = .ok (.bipush 10, 2) := by decide +kernel
theorem dX7_work_203 : decode cX7_work 203 = .ok (.isub, 1) := by decide +kernel
theorem dX7_work_204 : decode cX7_work 204 = .ok (.ireturn, 1) := by decide +kernel
theorem dX7_work_205 : decode cX7_work 205 = .ok (.aload_n 0, 1) := by decide +kernel
theorem dX7_work_206 : decode cX7_work 206 = .ok (.getfield 36, 3) := by decide +kernel
theorem dX7_work_209 : decode cX7_work 209 = .ok (.aload_n 0, 1) := by decide +kernel
theorem dX7_work_210 : decode cX7_work 210 = .ok (.getfield 144, 3) := by decide +kernel
theorem dX7_work_213 : decode cX7_work 213 = .ok (.aload_n 0, 1) := by decide +kernel
theorem dX7_work_214 : decode cX7_work 214 = .ok (.getfield 144, 3) := by decide +kernel
theorem dX7_work_217 : decode cX7_work 217 = .ok (.iastore, 1) := by decide +kernel
theorem dX7_work_218 : decode cX7_work 218 = .ok (.aload_n 0, 1) := by decide +kernel
theorem dX7_work_219 : decode cX7_work 219 = .ok (.dup, 1) := by decide +kernel
theorem dX7_work_220 : decode cX7_work 220 = .ok (.getfield 144, 3) := by decide +kernel
theorem dX7_work_223 : decode cX7_work 223 = .ok (.iconst 1, 1) := by decide +kernel
theorem dX7_work_224 : decode cX7_work 224 = .ok (.iadd, 1) := by decide +kernel
theorem dX7_work_225 : decode cX7_work 225 = .ok (.putfield 144, 3) := by decide +kernel
theorem dX7_work_228 : decode cX7_work 228 = .ok (.aload_n 0, 1) := by decide +kernel
theorem dX7_work_229 : decode cX7_work 229 = .ok (.iconst 0, 1) := by decide +kernel
theorem dX7_work_230 : decode cX7_work 230 = .ok (.putfield 161, 3) := by decide +kernel
theorem dX7_work_233 : decode cX7_work 233 = .ok (.aload_n 0, 1) := by decide +kernel
theorem dX7_work_234 : decode cX7_work 234 = .ok (.getfield 144, 3) := by decide +kernel
theorem dX7_work_237 : decode cX7_work 237 = .ok (.iconst 1, 1) := by decide +kernel
theorem dX7_work_238 : decode cX7_work 238 = .ok (.isub, 1) := by decide +kernel
theorem dX7_work_239 : decode cX7_work 239 = .ok (.ireturn, 1) := by decide +kernel
theorem dX7_fault_0 : decode cX7_fault 0 = .ok (.aload_n 0, 1) := by decide +kernel
theorem dX7_fault_1 : decode cX7_fault 1 = .ok (.iconst 0, 1) := by decide +kernel
theorem dX7_fault_2 : decode cX7_fault 2 = .ok (.putfield 79, 3) := by decide +kernel
theorem dX7_fault_5 : decode cX7_fault 5 = .ok (.aload_n 0, 1) := by decide +kernel
theorem dX7_fault_6 : decode cX7_fault 6 = .ok (.getfield 13, 3) := by decide +kernel
theorem dX7_fault_9 : decode cX7_fault 9 = .ok (.ireturn, 1) := by decide +kernel
theorem dX7_isWork_0 : decode cX7_isWork 0 = .ok (.iload_n 1, 1) := by decide +kernel
theorem dX7_isWork_1 : decode cX7_isWork 1 = .ok (.ifCond .lt 15, 3) := by decide +kernel
theorem dX7_isWork_4 : decode cX7_isWork 4 = .ok (.iload_n 1, 1) := by decide +kernel
theorem dX7_isWork_5 : decode cX7_isWork 5 = .ok (.aload_n 0, 1) := by decide +kernel
theorem dX7_isWork_6 : decode cX7_isWork 6 = .ok (.getfield 144, 3) := by decide +kernel
theorem dX7_isWork_9 : decode cX7_isWork 9 = .ok (.if_icmp .ge 7, 3) := by decide +kernel
theorem dX7_isWork_12 : decode cX7_isWork 12 = .ok (.iconst 1, 1) := by decide +kernel
theorem dX7_isWork_13 : decode cX7_isWork 13 = .ok (.goto 4, 3) := by decide +kernel
theorem dX7_isWork_16 : decode cX7_isWork 16 = .ok (.iconst 0, 1) := by decide +kernel
theorem dX7_isWork_17 : decode cX7_isWork 17 = .ok (.ireturn, 1) := by decide +kernel
theorem dX7_told_0 : decode cX7_told 0 = .ok (.aload_n 0, 1) := by decide +kernel
theorem dX7_told_1 : decode cX7_told 1 = .ok (.iconst 0, 1) := by decide +kernel
theorem dX7_told_2 : decode cX7_told 2 = .ok (.putfield 79, 3) := by decide +kernel
theorem dX7_told_5 : decode cX7_told 5 = .ok (.aload_n 0, 1) := by decide +kernel
theorem dX7_told_6 : decode cX7_told 6 = .ok (.aload_n 0, 1) := by decide +kernel
theorem dX7_told_7 : decode cX7_told 7 = .ok (.iload_n 1, 1) := by decide +kernel
theorem dX7_told_8 : decode cX7_told 8 = .ok (.invokevirtual 164, 3) := by decide +kernel
theorem dX7_told_11 : decode cX7_told 11 = .ok (.ifCond .ne 7, 3) := by decide +kernel
theorem dX7_told_14 : decode cX7_told 14 = .ok (.iconst 1, 1) := by decide +kernel
theorem dX7_told_15 : decode cX7_told 15 = .ok (.goto 4, 3) := by decide +kernel
theorem dX7_told_18 : decode cX7_told 18 = .ok (.iconst 0, 1) := by decide +kernel
theorem dX7_told_19 : decode cX7_told 19 = .ok (.iconst 1, 1) := by decide +kernel
theorem dX7_told_20 : decode cX7_told 20 = .ok (.invokevirtual 154, 3) := by decide +kernel
theorem dX7_told_23 : decode cX7_told 23 = .ok (.ifCond .ne 25, 3) := by decide +kernel
theorem dX7_told_26 : decode cX7_told 26 = .ok (.aload_n 0, 1) := by decide +kernel
theorem dX7_told_27 : decode cX7_told 27 = .ok (.iload_n 2, 1) := by decide +kernel
theorem dX7_told_28 : decode cX7_told 28 = .ok (.ifCond .lt 8, 3) := by decide +kernel
theorem dX7_told_31 : decode cX7_told 31 = .ok (.iload_n 2, 1) := by decide +kernel
theorem dX7_told_32 : decode cX7_told 32 = .ok (.iconst 5, 1) := by decide +kernel
theorem dX7_told_33 : decode cX7_told 33 = .ok (.if_icmp .le 7, 3) := by decide +kernel
theorem dX7_told_36 : decode cX7_told 36 = .ok (.iconst 1, 1) := by decide +kernel
theorem dX7_told_37 : decode cX7_told 37 = .ok (.goto 4, 3) := by decide +kernel
theorem dX7_told_40 : decode cX7_told 40 = .ok (.iconst 0, 1) := by decide +kernel
theorem dX7_told_41 : decode cX7_told 41 = .ok (.iconst 2, 1) := by decide +kernel
theorem dX7_told_42 : decode cX7_told 42 = .ok (.invokevirtual 154, 3) := by decide +kernel
theorem dX7_told_45 : decode cX7_told 45 = .ok (.ifCond .eq 5, 3) := by decide +kernel
theorem dX7_told_48 : decode cX7_told 48 = .ok (.iconst 0, 1) := by decide +kernel
theorem dX7_told_49 : decode cX7_told 49 = .ok (.ireturn, 1) := by decide +kernel
theorem dX7_told_50 : decode cX7_told 50 = .ok (.iload_n 2, 1) := by decide +kernel
theorem dX7_told_51 : decode cX7_told 51 = .ok (.ifCond .ne 12, 3) := by decide +kernel
theorem dX7_told_54 : decode cX7_told 54 = .ok (.aload_n 0, 1) := by decide +kernel
theorem dX7_told_55 : decode cX7_told 55 = .ok (.getfield 17, 3) := by decide +kernel
theorem dX7_told_58 : decode cX7_told 58 = .ok (.iload_n 1, 1) := by decide +kernel
theorem dX7_told_59 : decode cX7_told 59 = .ok (.iaload, 1) := by decide +kernel
theorem dX7_told_60 : decode cX7_told 60 = .ok (.goto 65, 3) := by decide +kernel
theorem dX7_told_63 : decode cX7_told 63 = .ok (.iload_n 2, 1) := by decide +kernel
theorem dX7_told_64 : decode cX7_told 64 = .ok (.iconst 1, 1) := by decide +kernel
theorem dX7_told_65 : decode cX7_told 65 = .ok (.if_icmp .ne 12, 3) := by decide +kernel
theorem dX7_told_68 : decode cX7_told 68 = .ok (.aload_n 0, 1) := by decide +kernel
theorem dX7_told_69 : decode cX7_told 69 = .ok (.getfield 21, 3) := by decide +kernel
theorem dX7_told_72 : decode cX7_told 72 = .ok (.iload_n 1, 1) := by decide +kernel
theorem dX7_told_73 : decode cX7_told 73 = .ok (.iaload, 1) := by decide +kernel
theorem dX7_told_74 : decode cX7_told 74 = .ok (.goto 51, 3) := by decide +kernel
theorem dX7_told_77 : decode cX7_told 77 = .ok (.iload_n 2, 1) := by decide +kernel
theorem dX7_told_78 : decode cX7_told 78 = .ok (.iconst 2, 1) := by decide +kernel
theorem dX7_told_79 : decode cX7_told 79 = .ok (.if_icmp .ne 12, 3) := by decide +kernel
theorem dX7_told_82 : decode cX7_told 82 = .ok (.aload_n 0, 1) := by decide +kernel
theorem dX7_told_83 : decode cX7_told 83 = .ok (.getfield 24, 3) := by decide +kernel
theorem dX7_told_86 : decode cX7_told 86 = .ok (.iload_n 1, 1) := by decide +kernel
theorem dX7_told_87 : decode cX7_told 87 = .ok (.iaload, 1) := by decide +kernel
theorem dX7_told_88 : decode cX7_told 88 = .ok (.goto 37, 3) := by decide +kernel
theorem dX7_told_91 : decode cX7_told 91 = .ok (.iload_n 2, 1) := by decide +kernel
theorem dX7_told_92 : decode cX7_told 92 = .ok (.iconst 3, 1) := by decide +kernel
theorem dX7_told_93 : decode cX7_told 93 = .ok (.if_icmp .ne 12, 3) := by decide +kernel
theorem dX7_told_96 : decode cX7_told 96 = .ok (.aload_n 0, 1) := by decide +kernel
theorem dX7_told_97 : decode cX7_told 97 = .ok (.getfield 27, 3) := by decide +kernel
theorem dX7_told_100 : decode cX7_told 100 = .ok (.iload_n 1, 1) := by decide +kernel
theorem dX7_told_101 : decode cX7_told 101 = .ok (.iaload, 1) := by decide +kernel
theorem dX7_told_102 : decode cX7_told 102 = .ok (.goto 23, 3) := by decide +kernel
theorem dX7_told_105 : decode cX7_told 105 = .ok (.iload_n 2, 1) := by decide +kernel
theorem dX7_told_106 : decode cX7_told 106 = .ok (.iconst 4, 1) := by decide +kernel
theorem dX7_told_107 : decode cX7_told 107 = .ok (.if_icmp .ne 12, 3) := by decide +kernel
theorem dX7_told_110 : decode cX7_told 110 = .ok (.aload_n 0, 1) := by decide +kernel
theorem dX7_told_111 : decode cX7_told 111 = .ok (.getfield 30, 3) := by decide +kernel
theorem dX7_told_114 : decode cX7_told 114 = .ok (.iload_n 1, 1) := by decide +kernel
theorem dX7_told_115 : decode cX7_told 115 = .ok (.iaload, 1) := by decide +kernel
theorem dX7_told_116 : decode cX7_told 116 = .ok (.goto 9, 3) := by decide +kernel
theorem dX7_told_119 : decode cX7_told 119 = .ok (.aload_n 0, 1) := by decide +kernel
theorem dX7_told_120 : decode cX7_told 120 = .ok (.getfield 33, 3) := by decide +kernel
theorem dX7_told_123 : decode cX7_told 123 = .ok (.iload_n 1, 1) := by decide +kernel
theorem dX7_told_124 : decode cX7_told 124 = .ok (.iaload, 1) := by decide +kernel
theorem dX7_told_125 : decode cX7_told 125 = .ok (.ireturn, 1) := by decide +kernel
theorem dX7_set_0 : decode cX7_set 0 = .ok (.aload_n 0, 1) := by decide +kernel
theorem dX7_set_1 : decode cX7_set 1 = .ok (.iconst 0, 1) := by decide +kernel
theorem dX7_set_2 : decode cX7_set 2 = .ok (.putfield 79, 3) := by decide +kernel
theorem dX7_set_5 : decode cX7_set 5 = .ok (.aload_n 0, 1) := by decide +kernel
theorem dX7_set_6 : decode cX7_set 6 = .ok (.iload_n 1, 1) := by decide +kernel
theorem dX7_set_7 : decode cX7_set 7 = .ok (.ifCond .lt 37, 3) := by decide +kernel
theorem dX7_set_10 : decode cX7_set 10 = .ok (.iload_n 1, 1) := by decide +kernel
theorem dX7_set_11 : decode cX7_set 11 = .ok (.iconst 1, 1) := by decide +kernel
theorem dX7_set_12 : decode cX7_set 12 = .ok (.if_icmp .gt 32, 3) := by decide +kernel
theorem dX7_set_15 : decode cX7_set 15 = .ok (.iload_n 2, 1) := by decide +kernel
theorem dX7_set_16 : decode cX7_set 16 = .ok (.iload_n 1, 1) := by decide +kernel
theorem dX7_set_17 : decode cX7_set 17 = .ok (.ifCond .ne 7, 3) := by decide +kernel
theorem dX7_set_20 : decode cX7_set 20 = .ok (.iconst 1, 1) := by decide +kernel
theorem dX7_set_21 : decode cX7_set 21 = .ok (.goto 4, 3) := by decide +kernel
theorem dX7_set_24 : decode cX7_set 24 = .ok (.iconst 0, 1) := by decide +kernel
theorem dX7_set_25 : decode cX7_set 25 = .ok (.if_icmp .lt 19, 3) := by decide +kernel
theorem dX7_set_28 : decode cX7_set 28 = .ok (.iload_n 2, 1) := by decide +kernel
theorem dX7_set_29 : decode cX7_set 29 = .ok (.iload_n 1, 1) := by decide +kernel
theorem dX7_set_30 : decode cX7_set 30 = .ok (.ifCond .ne 8, 3) := by decide +kernel
theorem dX7_set_33 : decode cX7_set 33 = .ok (.bipush 60, 2) := by decide +kernel
theorem dX7_set_35 : decode cX7_set 35 = .ok (.goto 6, 3) := by decide +kernel
theorem dX7_set_38 : decode cX7_set 38 = .ok (.sipush 1000, 3) := by decide +kernel
theorem dX7_set_41 : decode cX7_set 41 = .ok (.if_icmp .le 7, 3) := by decide +kernel
theorem dX7_set_44 : decode cX7_set 44 = .ok (.iconst 1, 1) := by decide +kernel
theorem dX7_set_45 : decode cX7_set 45 = .ok (.goto 4, 3) := by decide +kernel
theorem dX7_set_48 : decode cX7_set 48 = .ok (.iconst 0, 1) := by decide +kernel
theorem dX7_set_49 : decode cX7_set 49 = .ok (.iconst 1, 1) := by decide +kernel
theorem dX7_set_50 : decode cX7_set 50 = .ok (.invokevirtual 154, 3) := by decide +kernel
theorem dX7_set_53 : decode cX7_set 53 = .ok (.ifCond .eq 5, 3) := by decide +kernel
theorem dX7_set_56 : decode cX7_set 56 = .ok (.iconst 0, 1) := by decide +kernel
theorem dX7_set_57 : decode cX7_set 57 = .ok (.ireturn, 1) := by decide +kernel
theorem dX7_set_58 : decode cX7_set 58 = .ok (.iload_n 1, 1) := by decide +kernel
theorem dX7_set_59 : decode cX7_set 59 = .ok (.ifCond .ne 10, 3) := by decide +kernel
theorem dX7_set_62 : decode cX7_set 62 = .ok (.aload_n 0, 1) := by decide +kernel
theorem dX7_set_63 : decode cX7_set 63 = .ok (.getfield 39, 3) := by decide +kernel
theorem dX7_set_66 : decode cX7_set 66 = .ok (.goto 7, 3) := by decide +kernel
theorem dX7_set_69 : decode cX7_set 69 = .ok (.aload_n 0, 1) := by decide +kernel
theorem dX7_set_70 : decode cX7_set 70 = .ok (.getfield 42, 3) := by decide +kernel
theorem dX7_set_73 : decode cX7_set 73 = .ok (.istore_n 3, 1) := by decide +kernel
theorem dX7_set_74 : decode cX7_set 74 = .ok (.iload_n 1, 1) := by decide +kernel
theorem dX7_set_75 : decode cX7_set 75 = .ok (.ifCond .ne 11, 3) := by decide +kernel
theorem dX7_set_78 : decode cX7_set 78 = .ok (.aload_n 0, 1) := by decide +kernel
theorem dX7_set_79 : decode cX7_set 79 = .ok (.iload_n 2, 1) := by decide +kernel
theorem dX7_set_80 : decode cX7_set 80 = .ok (.putfield 39, 3) := by decide +kernel
theorem dX7_set_83 : decode cX7_set 83 = .ok (.goto 8, 3) := by decide +kernel
theorem dX7_set_86 : decode cX7_set 86 = .ok (.aload_n 0, 1) := by decide +kernel
theorem dX7_set_87 : decode cX7_set 87 = .ok (.iload_n 2, 1) := by decide +kernel
theorem dX7_set_88 : decode cX7_set 88 = .ok (.putfield 42, 3) := by decide +kernel
theorem dX7_set_91 : decode cX7_set 91 = .ok (.iload_n 3, 1) := by decide +kernel
theorem dX7_set_92 : decode cX7_set 92 = .ok (.ireturn, 1) := by decide +kernel
theorem dX7_noise_0 : decode cX7_noise 0 = .ok (.aload_n 0, 1) := by decide +kernel
theorem dX7_noise_1 : decode cX7_noise 1 = .ok (.iconst 0, 1) := by decide +kernel
theorem dX7_noise_2 : decode cX7_noise 2 = .ok (.putfield 79, 3) := by decide +kernel
theorem dX7_noise_5 : decode cX7_noise 5 = .ok (.aload_n 0, 1) := by decide +kernel
theorem dX7_noise_6 : decode cX7_noise 6 = .ok (.getfield 167, 3) := by decide +kernel
theorem dX7_noise_9 : decode cX7_noise 9 = .ok (.bipush 20, 2) := by decide +kernel
theorem dX7_noise_11 : decode cX7_noise 11 = .ok (.if_icmp .ne 5, 3) := by decide +kernel
theorem dX7_noise_14 : decode cX7_noise 14 = .ok (.iconst (-1), 1) := by decide +kernel
theorem dX7_noise_15 : decode cX7_noise 15 = .ok (.ireturn, 1) := by decide +kernel
theorem dX7_noise_16 : decode cX7_noise 16 = .ok (.aload_n 0, 1) := by decide +kernel
theorem dX7_noise_17 : decode cX7_noise 17 = .ok (.getfield 49, 3) := by decide +kernel
theorem dX7_noise_20 : decode cX7_noise 20 = .ok (.aload_n 0, 1) := by decide +kernel
theorem dX7_noise_21 : decode cX7_noise 21 = .ok (.getfield 167, 3) := by decide +kernel
theorem dX7_noise_24 : decode cX7_noise 24 = .ok (.iload_n 1, 1) := by decide +kernel
theorem dX7_noise_25 : decode cX7_noise 25 = .ok (.iastore, 1) := by decide +kernel
theorem dX7_noise_26 : decode cX7_noise 26 = .ok (.aload_n 0, 1) := by decide +kernel
theorem dX7_noise_27 : decode cX7_noise 27 = .ok (.dup, 1) := by decide +kernel
theorem dX7_noise_28 : decode cX7_noise 28 = .ok (.getfield 167, 3) := by decide +kernel
theorem dX7_noise_31 : decode cX7_noise 31 = .ok (.iconst 1, 1) := by decide +kernel
theorem dX7_noise_32 : decode cX7_noise 32 = .ok (.iadd, 1) := by decide +kernel
theorem dX7_noise_33 : decode cX7_noise 33 = .ok (.putfield 167, 3) := by decide +kernel
theorem dX7_noise_36 : decode cX7_noise 36 = .ok (.aload_n 0, 1) := by decide +kernel
theorem dX7_noise_37 : decode cX7_noise 37 = .ok (.getfield 167, 3) := by decide +kernel
theorem dX7_noise_40 : decode cX7_noise 40 = .ok (.ireturn, 1) := by decide +kernel
theorem dX7_draw_0 : decode cX7_draw 0 = .ok (.aload_n 0, 1) := by decide +kernel
theorem dX7_draw_1 : decode cX7_draw 1 = .ok (.iconst 0, 1) := by decide +kernel
theorem dX7_draw_2 : decode cX7_draw 2 = .ok (.putfield 79, 3) := by decide +kernel
theorem dX7_draw_5 : decode cX7_draw 5 = .ok (.aload_n 0, 1) := by decide +kernel
theorem dX7_draw_6 : decode cX7_draw 6 = .ok (.getfield 161, 3) := by decide +kernel
theorem dX7_draw_9 : decode cX7_draw 9 = .ok (.bipush 20, 2) := by decide +kernel
theorem dX7_draw_11 : decode cX7_draw 11 = .ok (.if_icmp .ne 5, 3) := by decide +kernel
theorem dX7_draw_14 : decode cX7_draw 14 = .ok (.iconst (-1), 1) := by decide +kernel
theorem dX7_draw_15 : decode cX7_draw 15 = .ok (.ireturn, 1) := by decide +kernel
theorem dX7_draw_16 : decode cX7_draw 16 = .ok (.aload_n 0, 1) := by decide +kernel
theorem dX7_draw_17 : decode cX7_draw 17 = .ok (.getfield 167, 3) := by decide +kernel
theorem dX7_draw_20 : decode cX7_draw 20 = .ok (.aload_n 0, 1) := by decide +kernel
theorem dX7_draw_21 : decode cX7_draw 21 = .ok (.getfield 144, 3) := by decide +kernel
theorem dX7_draw_24 : decode cX7_draw 24 = .ok (.if_icmp .ge 6, 3) := by decide +kernel
theorem dX7_draw_27 : decode cX7_draw 27 = .ok (.bipush (-2), 2) := by decide +kernel
theorem dX7_draw_29 : decode cX7_draw 29 = .ok (.ireturn, 1) := by decide +kernel
theorem dX7_draw_30 : decode cX7_draw 30 = .ok (.iconst 0, 1) := by decide +kernel
theorem dX7_draw_31 : decode cX7_draw 31 = .ok (.istore_n 1, 1) := by decide +kernel
theorem dX7_draw_32 : decode cX7_draw 32 = .ok (.iload_n 1, 1) := by decide +kernel
theorem dX7_draw_33 : decode cX7_draw 33 = .ok (.aload_n 0, 1) := by decide +kernel
theorem dX7_draw_34 : decode cX7_draw 34 = .ok (.getfield 144, 3) := by decide +kernel
theorem dX7_draw_37 : decode cX7_draw 37 = .ok (.if_icmp .ge 59, 3) := by decide +kernel
theorem dX7_draw_40 : decode cX7_draw 40 = .ok (.aload_n 0, 1) := by decide +kernel
theorem dX7_draw_41 : decode cX7_draw 41 = .ok (.getfield 52, 3) := by decide +kernel
theorem dX7_draw_44 : decode cX7_draw 44 = .ok (.bipush 16, 2) := by decide +kernel
theorem dX7_draw_46 : decode cX7_draw 46 = .ok (.aload_n 0, 1) := by decide +kernel
theorem dX7_draw_47 : decode cX7_draw 47 = .ok (.getfield 161, 3) := by decide +kernel
theorem dX7_draw_50 : decode cX7_draw 50 = .ok (.imul, 1) := by decide +kernel
theorem dX7_draw_51 : decode cX7_draw 51 = .ok (.iload_n 1, 1) := by decide +kernel
theorem dX7_draw_52 : decode cX7_draw 52 = .ok (.iadd, 1) := by decide +kernel
theorem dX7_draw_53 : decode cX7_draw 53 = .ok (.aload_n 0, 1) := by decide +kernel
theorem dX7_draw_54 : decode cX7_draw 54 = .ok (.getfield 17, 3) := by decide +kernel
theorem dX7_draw_57 : decode cX7_draw 57 = .ok (.iload_n 1, 1) := by decide +kernel
theorem dX7_draw_58 : decode cX7_draw 58 = .ok (.iaload, 1) := by decide +kernel
theorem dX7_draw_59 : decode cX7_draw 59 = .ok (.aload_n 0, 1) := by decide +kernel
theorem dX7_draw_60 : decode cX7_draw 60 = .ok (.getfield 49, 3) := by decide +kernel
theorem dX7_draw_63 : decode cX7_draw 63 = .ok (.iload_n 1, 1) := by decide +kernel
theorem dX7_draw_64 : decode cX7_draw 64 = .ok (.iaload, 1) := by decide +kernel
theorem dX7_draw_65 : decode cX7_draw 65 = .ok (.i2l, 1) := by decide +kernel
theorem dX7_draw_66 : decode cX7_draw 66 = .ok (.ldc2_w 170, 3) := by decide +kernel
theorem dX7_draw_69 : decode cX7_draw 69 = .ok (.land, 1) := by decide +kernel
theorem dX7_draw_70 : decode cX7_draw 70 = .ok (.aload_n 0, 1) := by decide +kernel
theorem dX7_draw_71 : decode cX7_draw 71 = .ok (.getfield 21, 3) := by decide +kernel
theorem dX7_draw_74 : decode cX7_draw 74 = .ok (.iload_n 1, 1) := by decide +kernel
theorem dX7_draw_75 : decode cX7_draw 75 = .ok (.iaload, 1) := by decide +kernel
theorem dX7_draw_76 : decode cX7_draw 76 = .ok (.aload_n 0, 1) := by decide +kernel
theorem dX7_draw_77 : decode cX7_draw 77 = .ok (.getfield 17, 3) := by decide +kernel
theorem dX7_draw_80 : decode cX7_draw 80 = .ok (.iload_n 1, 1) := by decide +kernel
theorem dX7_draw_81 : decode cX7_draw 81 = .ok (.iaload, 1) := by decide +kernel
theorem dX7_draw_82 : decode cX7_draw 82 = .ok (.isub, 1) := by decide +kernel
theorem dX7_draw_83 : decode cX7_draw 83 = .ok (.iconst 1, 1) := by decide +kernel
theorem dX7_draw_84 : decode cX7_draw 84 = .ok (.iadd, 1) := by decide +kernel
theorem dX7_draw_85 : decode cX7_draw 85 = .ok (.i2l, 1) := by decide +kernel
theorem dX7_draw_86 : decode cX7_draw 86 = .ok (.lrem, 1) := by decide +kernel
theorem dX7_draw_87 : decode cX7_draw 87 = .ok (.l2i, 1) := by decide +kernel
theorem dX7_draw_88 : decode cX7_draw 88 = .ok (.iadd, 1) := by decide +kernel
theorem dX7_draw_89 : decode cX7_draw 89 = .ok (.iastore, 1) := by decide +kernel
theorem dX7_draw_90 : decode cX7_draw 90 = .ok (.iinc 1 1, 3) := by decide +kernel
theorem dX7_draw_93 : decode cX7_draw 93 = .ok (.goto (-61), 3) := by decide +kernel
theorem dX7_draw_96 : decode cX7_draw 96 = .ok (.aload_n 0, 1) := by decide +kernel
theorem dX7_draw_97 : decode cX7_draw 97 = .ok (.iconst 0, 1) := by decide +kernel
theorem dX7_draw_98 : decode cX7_draw 98 = .ok (.putfield 167, 3) := by decide +kernel
theorem dX7_draw_101 : decode cX7_draw 101 = .ok (.aload_n 0, 1) := by decide +kernel
theorem dX7_draw_102 : decode cX7_draw 102 = .ok (.dup, 1) := by decide +kernel
theorem dX7_draw_103 : decode cX7_draw 103 = .ok (.getfield 161, 3) := by decide +kernel
theorem dX7_draw_106 : decode cX7_draw 106 = .ok (.iconst 1, 1) := by decide +kernel
theorem dX7_draw_107 : decode cX7_draw 107 = .ok (.iadd, 1) := by decide +kernel
theorem dX7_draw_108 : decode cX7_draw 108 = .ok (.putfield 161, 3) := by decide +kernel
theorem dX7_draw_111 : decode cX7_draw 111 = .ok (.aload_n 0, 1) := by decide +kernel
theorem dX7_draw_112 : decode cX7_draw 112 = .ok (.getfield 161, 3) := by decide +kernel
theorem dX7_draw_115 : decode cX7_draw 115 = .ok (.iconst 1, 1) := by decide +kernel
theorem dX7_draw_116 : decode cX7_draw 116 = .ok (.iadd, 1) := by decide +kernel
theorem dX7_draw_117 : decode cX7_draw 117 = .ok (.ireturn, 1) := by decide +kernel
theorem dX7_isRow_0 : decode cX7_isRow 0 = .ok (.iload_n 1, 1) := by decide +kernel
theorem dX7_isRow_1 : decode cX7_isRow 1 = .ok (.ifCond .lt 17, 3) := by decide +kernel
theorem dX7_isRow_4 : decode cX7_isRow 4 = .ok (.iload_n 1, 1) := by decide +kernel
theorem dX7_isRow_5 : decode cX7_isRow 5 = .ok (.aload_n 0, 1) := by decide +kernel
theorem dX7_isRow_6 : decode cX7_isRow 6 = .ok (.getfield 161, 3) := by decide +kernel
theorem dX7_isRow_9 : decode cX7_isRow 9 = .ok (.iconst 2, 1) := by decide +kernel
theorem dX7_isRow_10 : decode cX7_isRow 10 = .ok (.iadd, 1) := by decide +kernel
theorem dX7_isRow_11 : decode cX7_isRow 11 = .ok (.if_icmp .ge 7, 3) := by decide +kernel
theorem dX7_isRow_14 : decode cX7_isRow 14 = .ok (.iconst 1, 1) := by decide +kernel
theorem dX7_isRow_15 : decode cX7_isRow 15 = .ok (.goto 4, 3) := by decide +kernel
theorem dX7_isRow_18 : decode cX7_isRow 18 = .ok (.iconst 0, 1) := by decide +kernel
theorem dX7_isRow_19 : decode cX7_isRow 19 = .ok (.ireturn, 1) := by decide +kernel
theorem dX7_hoursOf_0 : decode cX7_hoursOf 0 = .ok (.iload_n 1, 1) := by decide +kernel
theorem dX7_hoursOf_1 : decode cX7_hoursOf 1 = .ok (.ifCond .ne 12, 3) := by decide +kernel
theorem dX7_hoursOf_4 : decode cX7_hoursOf 4 = .ok (.aload_n 0, 1) := by decide +kernel
theorem dX7_hoursOf_5 : decode cX7_hoursOf 5 = .ok (.getfield 17, 3) := by decide +kernel
theorem dX7_hoursOf_8 : decode cX7_hoursOf 8 = .ok (.iload_n 2, 1) := by decide +kernel
theorem dX7_hoursOf_9 : decode cX7_hoursOf 9 = .ok (.iaload, 1) := by decide +kernel
theorem dX7_hoursOf_10 : decode cX7_hoursOf 10 = .ok (.goto 30, 3) := by decide +kernel
theorem dX7_hoursOf_13 : decode cX7_hoursOf 13 = .ok (.iload_n 1, 1) := by decide +kernel
theorem dX7_hoursOf_14 : decode cX7_hoursOf 14 = .ok (.iconst 1, 1) := by decide +kernel
theorem dX7_hoursOf_15 : decode cX7_hoursOf 15 = .ok (.if_icmp .ne 12, 3) := by decide +kernel
theorem dX7_hoursOf_18 : decode cX7_hoursOf 18 = .ok (.aload_n 0, 1) := by decide +kernel
theorem dX7_hoursOf_19 : decode cX7_hoursOf 19 = .ok (.getfield 21, 3) := by decide +kernel
theorem dX7_hoursOf_22 : decode cX7_hoursOf 22 = .ok (.iload_n 2, 1) := by decide +kernel
theorem dX7_hoursOf_23 : decode cX7_hoursOf 23 = .ok (.iaload, 1) := by decide +kernel
theorem dX7_hoursOf_24 : decode cX7_hoursOf 24 = .ok (.goto 16, 3) := by decide +kernel
theorem dX7_hoursOf_27 : decode cX7_hoursOf 27 = .ok (.aload_n 0, 1) := by decide +kernel
theorem dX7_hoursOf_28 : decode cX7_hoursOf 28 = .ok (.getfield 52, 3) := by decide +kernel
theorem dX7_hoursOf_31 : decode cX7_hoursOf 31 = .ok (.bipush 16, 2) := by decide +kernel
theorem dX7_hoursOf_33 : decode cX7_hoursOf 33 = .ok (.iload_n 1, 1) := by decide +kernel
theorem dX7_hoursOf_34 : decode cX7_hoursOf 34 = .ok (.iconst 2, 1) := by decide +kernel
theorem dX7_hoursOf_35 : decode cX7_hoursOf 35 = .ok (.isub, 1) := by decide +kernel
theorem dX7_hoursOf_36 : decode cX7_hoursOf 36 = .ok (.imul, 1) := by decide +kernel
theorem dX7_hoursOf_37 : decode cX7_hoursOf 37 = .ok (.iload_n 2, 1) := by decide +kernel
theorem dX7_hoursOf_38 : decode cX7_hoursOf 38 = .ok (.iadd, 1) := by decide +kernel
theorem dX7_hoursOf_39 : decode cX7_hoursOf 39 = .ok (.iaload, 1) := by decide +kernel
theorem dX7_hoursOf_40 : decode cX7_hoursOf 40 = .ok (.ireturn, 1) := by decide +kernel
theorem dX7_hours_0 : decode cX7_hours 0 = .ok (.aload_n 0, 1) := by decide +kernel
theorem dX7_hours_1 : decode cX7_hours 1 = .ok (.iconst 0, 1) := by decide +kernel
theorem dX7_hours_2 : decode cX7_hours 2 = .ok (.putfield 79, 3) := by decide +kernel
theorem dX7_hours_5 : decode cX7_hours 5 = .ok (.aload_n 0, 1) := by decide +kernel
theorem dX7_hours_6 : decode cX7_hours 6 = .ok (.aload_n 0, 1) := by decide +kernel
theorem dX7_hours_7 : decode cX7_hours 7 = .ok (.iload_n 2, 1) := by decide +kernel
theorem dX7_hours_8 : decode cX7_hours 8 = .ok (.invokevirtual 164, 3) := by decide +kernel
theorem dX7_hours_11 : decode cX7_hours 11 = .ok (.ifCond .ne 7, 3) := by decide +kernel
theorem dX7_hours_14 : decode cX7_hours 14 = .ok (.iconst 1, 1) := by decide +kernel
theorem dX7_hours_15 : decode cX7_hours 15 = .ok (.goto 4, 3) := by decide +kernel
theorem dX7_hours_18 : decode cX7_hours 18 = .ok (.iconst 0, 1) := by decide +kernel
theorem dX7_hours_19 : decode cX7_hours 19 = .ok (.iconst 1, 1) := by decide +kernel
theorem dX7_hours_20 : decode cX7_hours 20 = .ok (.invokevirtual 154, 3) := by decide +kernel
theorem dX7_hours_23 : decode cX7_hours 23 = .ok (.ifCond .ne 24, 3) := by decide +kernel
theorem dX7_hours_26 : decode cX7_hours 26 = .ok (.aload_n 0, 1) := by decide +kernel
theorem dX7_hours_27 : decode cX7_hours 27 = .ok (.aload_n 0, 1) := by decide +kernel
theorem dX7_hours_28 : decode cX7_hours 28 = .ok (.iload_n 1, 1) := by decide +kernel
theorem dX7_hours_29 : decode cX7_hours 29 = .ok (.invokevirtual 172, 3) := by decide +kernel
theorem dX7_hours_32 : decode cX7_hours 32 = .ok (.ifCond .ne 7, 3) := by decide +kernel
theorem dX7_hours_35 : decode cX7_hours 35 = .ok (.iconst 1, 1) := by decide +kernel
theorem dX7_hours_36 : decode cX7_hours 36 = .ok (.goto 4, 3) := by decide +kernel
theorem dX7_hours_39 : decode cX7_hours 39 = .ok (.iconst 0, 1) := by decide +kernel
theorem dX7_hours_40 : decode cX7_hours 40 = .ok (.iconst 2, 1) := by decide +kernel
theorem dX7_hours_41 : decode cX7_hours 41 = .ok (.invokevirtual 154, 3) := by decide +kernel
theorem dX7_hours_44 : decode cX7_hours 44 = .ok (.ifCond .eq 7, 3) := by decide +kernel
theorem dX7_hours_47 : decode cX7_hours 47 = .ok (.iconst 0, 1) := by decide +kernel
theorem dX7_hours_48 : decode cX7_hours 48 = .ok (.goto 9, 3) := by decide +kernel
theorem dX7_hours_51 : decode cX7_hours 51 = .ok (.aload_n 0, 1) := by decide +kernel
theorem dX7_hours_52 : decode cX7_hours 52 = .ok (.iload_n 1, 1) := by decide +kernel
theorem dX7_hours_53 : decode cX7_hours 53 = .ok (.iload_n 2, 1) := by decide +kernel
theorem dX7_hours_54 : decode cX7_hours 54 = .ok (.invokevirtual 175, 3) := by decide +kernel
theorem dX7_hours_57 : decode cX7_hours 57 = .ok (.ireturn, 1) := by decide +kernel
theorem dX7_mayBegin_0 : decode cX7_mayBegin 0 = .ok (.iconst 0, 1) := by decide +kernel
theorem dX7_mayBegin_1 : decode cX7_mayBegin 1 = .ok (.istore_n 3, 1) := by decide +kernel
theorem dX7_mayBegin_2 : decode cX7_mayBegin 2 = .ok (.iconst 0, 1) := by decide +kernel
theorem dX7_mayBegin_3 : decode cX7_mayBegin 3 = .ok (.istore 4, 2) := by decide +kernel
theorem dX7_mayBegin_5 : decode cX7_mayBegin 5 = .ok (.iload 4, 2) := by decide +kernel
theorem dX7_mayBegin_7 : decode cX7_mayBegin 7 = .ok (.aload_n 0, 1) := by decide +kernel
theorem dX7_mayBegin_8 : decode cX7_mayBegin 8 = .ok (.getfield 144, 3) := by decide +kernel
theorem dX7_mayBegin_11 : decode cX7_mayBegin 11 = .ok (.if_icmp .ge 109, 3) := by decide +kernel
theorem dX7_mayBegin_14 : decode cX7_mayBegin 14 = .ok (.aload_n 0, 1) := by decide +kernel
theorem dX7_mayBegin_15 : decode cX7_mayBegin 15 = .ok (.getfield 33, 3) := by decide +kernel
theorem dX7_mayBegin_18 : decode cX7_mayBegin 18 = .ok (.iload_n 1, 1) := by decide +kernel
theorem dX7_mayBegin_19 : decode cX7_mayBegin 19 = .ok (.iaload, 1) := by decide +kernel
theorem dX7_mayBegin_20 : decode cX7_mayBegin 20 = .ok (.iload 4, 2) := by decide +kernel
theorem dX7_mayBegin_22 : decode cX7_mayBegin 22 = .ok (.ishr, 1) := by decide +kernel
theorem dX7_mayBegin_23 : decode cX7_mayBegin 23 = .ok (.iconst 1, 1) := by decide +kernel
theorem dX7_mayBegin_24 : decode cX7_mayBegin 24 = .ok (.iand, 1) := by decide +kernel
theorem dX7_mayBegin_25 : decode cX7_mayBegin 25 = .ok (.iconst 1, 1) := by decide +kernel
theorem dX7_mayBegin_26 : decode cX7_mayBegin 26 = .ok (.if_icmp .ne 26, 3) := by decide +kernel
theorem dX7_mayBegin_29 : decode cX7_mayBegin 29 = .ok (.aload_n 0, 1) := by decide +kernel
theorem dX7_mayBegin_30 : decode cX7_mayBegin 30 = .ok (.getfield 55, 3) := by decide +kernel
theorem dX7_mayBegin_33 : decode cX7_mayBegin 33 = .ok (.iload 4, 2) := by decide +kernel
theorem dX7_mayBegin_35 : decode cX7_mayBegin 35 = .ok (.iaload, 1) := by decide +kernel
theorem dX7_mayBegin_36 : decode cX7_mayBegin 36 = .ok (.ifCond .lt 14, 3) := by decide +kernel
theorem dX7_mayBegin_39 : decode cX7_mayBegin 39 = .ok (.aload_n 0, 1) := by decide +kernel
theorem dX7_mayBegin_40 : decode cX7_mayBegin 40 = .ok (.getfield 58, 3) := by decide +kernel
theorem dX7_mayBegin_43 : decode cX7_mayBegin 43 = .ok (.iload 4, 2) := by decide +kernel
theorem dX7_mayBegin_45 : decode cX7_mayBegin 45 = .ok (.iaload, 1) := by decide +kernel
theorem dX7_mayBegin_46 : decode cX7_mayBegin 46 = .ok (.iload_n 2, 1) := by decide +kernel
theorem dX7_mayBegin_47 : decode cX7_mayBegin 47 = .ok (.if_icmp .le 5, 3) := by decide +kernel
theorem dX7_mayBegin_50 : decode cX7_mayBegin 50 = .ok (.iconst 0, 1) := by decide +kernel
theorem dX7_mayBegin_51 : decode cX7_mayBegin 51 = .ok (.ireturn, 1) := by decide +kernel
theorem dX7_mayBegin_52 : decode cX7_mayBegin 52 = .ok (.aload_n 0, 1) := by decide +kernel
theorem dX7_mayBegin_53 : decode cX7_mayBegin 53 = .ok (.getfield 55, 3) := by decide +kernel
theorem dX7_mayBegin_56 : decode cX7_mayBegin 56 = .ok (.iload 4, 2) := by decide +kernel
theorem dX7_mayBegin_58 : decode cX7_mayBegin 58 = .ok (.iaload, 1) := by decide +kernel
theorem dX7_mayBegin_59 : decode cX7_mayBegin 59 = .ok (.ifCond .lt 55, 3) := by decide +kernel
theorem dX7_mayBegin_62 : decode cX7_mayBegin 62 = .ok (.aload_n 0, 1) := by decide +kernel
theorem dX7_mayBegin_63 : decode cX7_mayBegin 63 = .ok (.getfield 58, 3) := by decide +kernel
theorem dX7_mayBegin_66 : decode cX7_mayBegin 66 = .ok (.iload 4, 2) := by decide +kernel
theorem dX7_mayBegin_68 : decode cX7_mayBegin 68 = .ok (.iaload, 1) := by decide +kernel
theorem dX7_mayBegin_69 : decode cX7_mayBegin 69 = .ok (.iload_n 2, 1) := by decide +kernel
theorem dX7_mayBegin_70 : decode cX7_mayBegin 70 = .ok (.if_icmp .gt 6, 3) := by decide +kernel
theorem dX7_mayBegin_73 : decode cX7_mayBegin 73 = .ok (.goto 41, 3) := by decide +kernel
theorem dX7_mayBegin_76 : decode cX7_mayBegin 76 = .ok (.aload_n 0, 1) := by decide +kernel
theorem dX7_mayBegin_77 : decode cX7_mayBegin 77 = .ok (.getfield 24, 3) := by decide +kernel
theorem dX7_mayBegin_80 : decode cX7_mayBegin 80 = .ok (.iload 4, 2) := by decide +kernel
theorem dX7_mayBegin_82 : decode cX7_mayBegin 82 = .ok (.iaload, 1) := by decide +kernel
theorem dX7_mayBegin_83 : decode cX7_mayBegin 83 = .ok (.ifCond .le 21, 3) := by decide +kernel
theorem dX7_mayBegin_86 : decode cX7_mayBegin 86 = .ok (.aload_n 0, 1) := by decide +kernel
theorem dX7_mayBegin_87 : decode cX7_mayBegin 87 = .ok (.getfield 24, 3) := by decide +kernel
theorem dX7_mayBegin_90 : decode cX7_mayBegin 90 = .ok (.iload 4, 2) := by decide +kernel
theorem dX7_mayBegin_92 : decode cX7_mayBegin 92 = .ok (.iaload, 1) := by decide +kernel
theorem dX7_mayBegin_93 : decode cX7_mayBegin 93 = .ok (.aload_n 0, 1) := by decide +kernel
theorem dX7_mayBegin_94 : decode cX7_mayBegin 94 = .ok (.getfield 24, 3) := by decide +kernel
theorem dX7_mayBegin_97 : decode cX7_mayBegin 97 = .ok (.iload_n 1, 1) := by decide +kernel
theorem dX7_mayBegin_98 : decode cX7_mayBegin 98 = .ok (.iaload, 1) := by decide +kernel
theorem dX7_mayBegin_99 : decode cX7_mayBegin 99 = .ok (.if_icmp .ne 5, 3) := by decide +kernel
theorem dX7_mayBegin_102 : decode cX7_mayBegin 102 = .ok (.iconst 0, 1) := by decide +kernel
theorem dX7_mayBegin_103 : decode cX7_mayBegin 103 = .ok (.ireturn, 1) := by decide +kernel
theorem dX7_mayBegin_104 : decode cX7_mayBegin 104 = .ok (.iload_n 3, 1) := by decide +kernel
theorem dX7_mayBegin_105 : decode cX7_mayBegin 105 = .ok (.aload_n 0, 1) := by decide +kernel
theorem dX7_mayBegin_106 : decode cX7_mayBegin 106 = .ok (.getfield 27, 3) := by decide +kernel
theorem dX7_mayBegin_109 : decode cX7_mayBegin 109 = .ok (.iload 4, 2) := by decide +kernel
theorem dX7_mayBegin_111 : decode cX7_mayBegin 111 = .ok (.iaload, 1) := by decide +kernel
theorem dX7_mayBegin_112 : decode cX7_mayBegin 112 = .ok (.iadd, 1) := by decide +kernel
theorem dX7_mayBegin_113 : decode cX7_mayBegin 113 = .ok (.istore_n 3, 1) := by decide +kernel
theorem dX7_mayBegin_114 : decode cX7_mayBegin 114 = .ok (.iinc 4 1, 3) := by decide +kernel
theorem dX7_mayBegin_117 : decode cX7_mayBegin 117 = .ok (.goto (-112), 3) := by decide +kernel
theorem dX7_mayBegin_120 : decode cX7_mayBegin 120 = .ok (.iload_n 3, 1) := by decide +kernel
theorem dX7_mayBegin_121 : decode cX7_mayBegin 121 = .ok (.aload_n 0, 1) := by decide +kernel
theorem dX7_mayBegin_122 : decode cX7_mayBegin 122 = .ok (.getfield 27, 3) := by decide +kernel
theorem dX7_mayBegin_125 : decode cX7_mayBegin 125 = .ok (.iload_n 1, 1) := by decide +kernel
theorem dX7_mayBegin_126 : decode cX7_mayBegin 126 = .ok (.iaload, 1) := by decide +kernel
theorem dX7_mayBegin_127 : decode cX7_mayBegin 127 = .ok (.iadd, 1) := by decide +kernel
theorem dX7_mayBegin_128 : decode cX7_mayBegin 128 = .ok (.aload_n 0, 1) := by decide +kernel
theorem dX7_mayBegin_129 : decode cX7_mayBegin 129 = .ok (.getfield 39, 3) := by decide +kernel
theorem dX7_mayBegin_132 : decode cX7_mayBegin 132 = .ok (.if_icmp .gt 7, 3) := by decide +kernel
theorem dX7_mayBegin_135 : decode cX7_mayBegin 135 = .ok (.iconst 1, 1) := by decide +kernel
theorem dX7_mayBegin_136 : decode cX7_mayBegin 136 = .ok (.goto 4, 3) := by decide +kernel
theorem dX7_mayBegin_139 : decode cX7_mayBegin 139 = .ok (.iconst 0, 1) := by decide +kernel
theorem dX7_mayBegin_140 : decode cX7_mayBegin 140 = .ok (.ireturn, 1) := by decide +kernel
theorem dX7_goes_0 : decode cX7_goes 0 = .ok (.iconst 0, 1) := by decide +kernel
theorem dX7_goes_1 : decode cX7_goes 1 = .ok (.istore_n 2, 1) := by decide +kernel
theorem dX7_goes_2 : decode cX7_goes 2 = .ok (.iload_n 2, 1) := by decide +kernel
theorem dX7_goes_3 : decode cX7_goes 3 = .ok (.aload_n 0, 1) := by decide +kernel
theorem dX7_goes_4 : decode cX7_goes 4 = .ok (.getfield 144, 3) := by decide +kernel
theorem dX7_goes_7 : decode cX7_goes 7 = .ok (.if_icmp .ge 16, 3) := by decide +kernel
theorem dX7_goes_10 : decode cX7_goes 10 = .ok (.aload_n 0, 1) := by decide +kernel
theorem dX7_goes_11 : decode cX7_goes 11 = .ok (.getfield 55, 3) := by decide +kernel
theorem dX7_goes_14 : decode cX7_goes 14 = .ok (.iload_n 2, 1) := by decide +kernel
theorem dX7_goes_15 : decode cX7_goes 15 = .ok (.iconst (-1), 1) := by decide +kernel
theorem dX7_goes_16 : decode cX7_goes 16 = .ok (.iastore, 1) := by decide +kernel
theorem dX7_goes_17 : decode cX7_goes 17 = .ok (.iinc 2 1, 3) := by decide +kernel
theorem dX7_goes_20 : decode cX7_goes 20 = .ok (.goto (-18), 3) := by decide +kernel
theorem dX7_goes_23 : decode cX7_goes 23 = .ok (.iconst 0, 1) := by decide +kernel
theorem dX7_goes_24 : decode cX7_goes 24 = .ok (.istore_n 2, 1) := by decide +kernel
theorem dX7_goes_25 : decode cX7_goes 25 = .ok (.iconst 0, 1) := by decide +kernel
theorem dX7_goes_26 : decode cX7_goes 26 = .ok (.istore_n 3, 1) := by decide +kernel
theorem dX7_goes_27 : decode cX7_goes 27 = .ok (.iload_n 2, 1) := by decide +kernel
theorem dX7_goes_28 : decode cX7_goes 28 = .ok (.ldc 178, 2) := by decide +kernel
theorem dX7_goes_30 : decode cX7_goes 30 = .ok (.if_icmp .ge 161, 3) := by decide +kernel
theorem dX7_goes_33 : decode cX7_goes 33 = .ok (.iconst 0, 1) := by decide +kernel
theorem dX7_goes_34 : decode cX7_goes 34 = .ok (.istore 4, 2) := by decide +kernel
theorem dX7_goes_36 : decode cX7_goes 36 = .ok (.iload 4, 2) := by decide +kernel
theorem dX7_goes_38 : decode cX7_goes 38 = .ok (.aload_n 0, 1) := by decide +kernel
theorem dX7_goes_39 : decode cX7_goes 39 = .ok (.getfield 144, 3) := by decide +kernel
theorem dX7_goes_42 : decode cX7_goes 42 = .ok (.if_icmp .ge 65, 3) := by decide +kernel
theorem dX7_goes_45 : decode cX7_goes 45 = .ok (.aload_n 0, 1) := by decide +kernel
theorem dX7_goes_46 : decode cX7_goes 46 = .ok (.getfield 36, 3) := by decide +kernel
theorem dX7_goes_49 : decode cX7_goes 49 = .ok (.iload 4, 2) := by decide +kernel
theorem dX7_goes_51 : decode cX7_goes 51 = .ok (.iaload, 1) := by decide +kernel
theorem dX7_goes_52 : decode cX7_goes 52 = .ok (.istore 5, 2) := by decide +kernel
theorem dX7_goes_54 : decode cX7_goes 54 = .ok (.aload_n 0, 1) := by decide +kernel
theorem dX7_goes_55 : decode cX7_goes 55 = .ok (.getfield 55, 3) := by decide +kernel
theorem dX7_goes_58 : decode cX7_goes 58 = .ok (.iload 5, 2) := by decide +kernel
theorem dX7_goes_60 : decode cX7_goes 60 = .ok (.iaload, 1) := by decide +kernel
theorem dX7_goes_61 : decode cX7_goes 61 = .ok (.ifCond .ge 40, 3) := by decide +kernel
theorem dX7_goes_64 : decode cX7_goes 64 = .ok (.aload_n 0, 1) := by decide +kernel
theorem dX7_goes_65 : decode cX7_goes 65 = .ok (.iload 5, 2) := by decide +kernel
theorem dX7_goes_67 : decode cX7_goes 67 = .ok (.iload_n 2, 1) := by decide +kernel
theorem dX7_goes_68 : decode cX7_goes 68 = .ok (.invokevirtual 179, 3) := by decide +kernel
theorem dX7_goes_71 : decode cX7_goes 71 = .ok (.ifCond .ne 6, 3) := by decide +kernel
theorem dX7_goes_74 : decode cX7_goes 74 = .ok (.goto 27, 3) := by decide +kernel
theorem dX7_goes_77 : decode cX7_goes 77 = .ok (.aload_n 0, 1) := by decide +kernel
theorem dX7_goes_78 : decode cX7_goes 78 = .ok (.getfield 55, 3) := by decide +kernel
theorem dX7_goes_81 : decode cX7_goes 81 = .ok (.iload 5, 2) := by decide +kernel
theorem dX7_goes_83 : decode cX7_goes 83 = .ok (.iload_n 2, 1) := by decide +kernel
theorem dX7_goes_84 : decode cX7_goes 84 = .ok (.iastore, 1) := by decide +kernel
theorem dX7_goes_85 : decode cX7_goes 85 = .ok (.aload_n 0, 1) := by decide +kernel
theorem dX7_goes_86 : decode cX7_goes 86 = .ok (.getfield 58, 3) := by decide +kernel
theorem dX7_goes_89 : decode cX7_goes 89 = .ok (.iload 5, 2) := by decide +kernel
theorem dX7_goes_91 : decode cX7_goes 91 = .ok (.iload_n 2, 1) := by decide +kernel
theorem dX7_goes_92 : decode cX7_goes 92 = .ok (.aload_n 0, 1) := by decide +kernel
theorem dX7_goes_93 : decode cX7_goes 93 = .ok (.iload_n 1, 1) := by decide +kernel
theorem dX7_goes_94 : decode cX7_goes 94 = .ok (.iload 5, 2) := by decide +kernel
theorem dX7_goes_96 : decode cX7_goes 96 = .ok (.invokevirtual 175, 3) := by decide +kernel
theorem dX7_goes_99 : decode cX7_goes 99 = .ok (.iadd, 1) := by decide +kernel
theorem dX7_goes_100 : decode cX7_goes 100 = .ok (.iastore, 1) := by decide +kernel
theorem dX7_goes_101 : decode cX7_goes 101 = .ok (.iinc 4 1, 3) := by decide +kernel
theorem dX7_goes_104 : decode cX7_goes 104 = .ok (.goto (-68), 3) := by decide +kernel
theorem dX7_goes_107 : decode cX7_goes 107 = .ok (.ldc 178, 2) := by decide +kernel
theorem dX7_goes_109 : decode cX7_goes 109 = .ok (.istore 4, 2) := by decide +kernel
theorem dX7_goes_111 : decode cX7_goes 111 = .ok (.iconst 0, 1) := by decide +kernel
theorem dX7_goes_112 : decode cX7_goes 112 = .ok (.istore 5, 2) := by decide +kernel
theorem dX7_goes_114 : decode cX7_goes 114 = .ok (.iload 5, 2) := by decide +kernel
theorem dX7_goes_116 : decode cX7_goes 116 = .ok (.aload_n 0, 1) := by decide +kernel
theorem dX7_goes_117 : decode cX7_goes 117 = .ok (.getfield 144, 3) := by decide +kernel
theorem dX7_goes_120 : decode cX7_goes 120 = .ok (.if_icmp .ge 51, 3) := by decide +kernel
theorem dX7_goes_123 : decode cX7_goes 123 = .ok (.aload_n 0, 1) := by decide +kernel
theorem dX7_goes_124 : decode cX7_goes 124 = .ok (.getfield 55, 3) := by decide +kernel
theorem dX7_goes_127 : decode cX7_goes 127 = .ok (.iload 5, 2) := by decide +kernel
theorem dX7_goes_129 : decode cX7_goes 129 = .ok (.iaload, 1) := by decide +kernel
theorem dX7_goes_130 : decode cX7_goes 130 = .ok (.ifCond .lt 35, 3) := by decide +kernel
theorem dX7_goes_133 : decode cX7_goes 133 = .ok (.aload_n 0, 1) := by decide +kernel
theorem dX7_goes_134 : decode cX7_goes 134 = .ok (.getfield 58, 3) := by decide +kernel
theorem dX7_goes_137 : decode cX7_goes 137 = .ok (.iload 5, 2) := by decide +kernel
theorem dX7_goes_139 : decode cX7_goes 139 = .ok (.iaload, 1) := by decide +kernel
theorem dX7_goes_140 : decode cX7_goes 140 = .ok (.iload_n 2, 1) := by decide +kernel
theorem dX7_goes_141 : decode cX7_goes 141 = .ok (.if_icmp .le 24, 3) := by decide +kernel
theorem dX7_goes_144 : decode cX7_goes 144 = .ok (.aload_n 0, 1) := by decide +kernel
theorem dX7_goes_145 : decode cX7_goes 145 = .ok (.getfield 58, 3) := by decide +kernel
theorem dX7_goes_148 : decode cX7_goes 148 = .ok (.iload 5, 2) := by decide +kernel
theorem dX7_goes_150 : decode cX7_goes 150 = .ok (.iaload, 1) := by decide +kernel
theorem dX7_goes_151 : decode cX7_goes 151 = .ok (.iload 4, 2) := by decide +kernel
theorem dX7_goes_153 : decode cX7_goes 153 = .ok (.if_icmp .ge 12, 3) := by decide +kernel
theorem dX7_goes_156 : decode cX7_goes 156 = .ok (.aload_n 0, 1) := by decide +kernel
theorem dX7_goes_157 : decode cX7_goes 157 = .ok (.getfield 58, 3) := by decide +kernel
theorem dX7_goes_160 : decode cX7_goes 160 = .ok (.iload 5, 2) := by decide +kernel
theorem dX7_goes_162 : decode cX7_goes 162 = .ok (.iaload, 1) := by decide +kernel
theorem dX7_goes_163 : decode cX7_goes 163 = .ok (.istore 4, 2) := by decide +kernel
theorem dX7_goes_165 : decode cX7_goes 165 = .ok (.iinc 5 1, 3) := by decide +kernel
theorem dX7_goes_168 : decode cX7_goes 168 = .ok (.goto (-54), 3) := by decide +kernel
theorem dX7_goes_171 : decode cX7_goes 171 = .ok (.iload 4, 2) := by decide +kernel
theorem dX7_goes_173 : decode cX7_goes 173 = .ok (.ldc 178, 2) := by decide +kernel
theorem dX7_goes_175 : decode cX7_goes 175 = .ok (.if_icmp .ge 8, 3) := by decide +kernel
theorem dX7_goes_178 : decode cX7_goes 178 = .ok (.iload 4, 2) := by decide +kernel
theorem dX7_goes_180 : decode cX7_goes 180 = .ok (.goto 4, 3) := by decide +kernel
theorem dX7_goes_183 : decode cX7_goes 183 = .ok (.iload_n 3, 1) := by decide +kernel
theorem dX7_goes_184 : decode cX7_goes 184 = .ok (.istore_n 3, 1) := by decide +kernel
theorem dX7_goes_185 : decode cX7_goes 185 = .ok (.iload 4, 2) := by decide +kernel
theorem dX7_goes_187 : decode cX7_goes 187 = .ok (.istore_n 2, 1) := by decide +kernel
theorem dX7_goes_188 : decode cX7_goes 188 = .ok (.goto (-161), 3) := by decide +kernel
theorem dX7_goes_191 : decode cX7_goes 191 = .ok (.iconst 0, 1) := by decide +kernel
theorem dX7_goes_192 : decode cX7_goes 192 = .ok (.istore 4, 2) := by decide +kernel
theorem dX7_goes_194 : decode cX7_goes 194 = .ok (.iload 4, 2) := by decide +kernel
theorem dX7_goes_196 : decode cX7_goes 196 = .ok (.aload_n 0, 1) := by decide +kernel
theorem dX7_goes_197 : decode cX7_goes 197 = .ok (.getfield 144, 3) := by decide +kernel
theorem dX7_goes_200 : decode cX7_goes 200 = .ok (.if_icmp .ge 21, 3) := by decide +kernel
theorem dX7_goes_203 : decode cX7_goes 203 = .ok (.aload_n 0, 1) := by decide +kernel
theorem dX7_goes_204 : decode cX7_goes 204 = .ok (.getfield 55, 3) := by decide +kernel
theorem dX7_goes_207 : decode cX7_goes 207 = .ok (.iload 4, 2) := by decide +kernel
theorem dX7_goes_209 : decode cX7_goes 209 = .ok (.iaload, 1) := by decide +kernel
theorem dX7_goes_210 : decode cX7_goes 210 = .ok (.ifCond .ge 5, 3) := by decide +kernel
theorem dX7_goes_213 : decode cX7_goes 213 = .ok (.iconst (-1), 1) := by decide +kernel
theorem dX7_goes_214 : decode cX7_goes 214 = .ok (.ireturn, 1) := by decide +kernel
theorem dX7_goes_215 : decode cX7_goes 215 = .ok (.iinc 4 1, 3) := by decide +kernel
theorem dX7_goes_218 : decode cX7_goes 218 = .ok (.goto (-24), 3) := by decide +kernel
theorem dX7_goes_221 : decode cX7_goes 221 = .ok (.iload_n 3, 1) := by decide +kernel
theorem dX7_goes_222 : decode cX7_goes 222 = .ok (.ireturn, 1) := by decide +kernel
theorem dX7_end_0 : decode cX7_end 0 = .ok (.aload_n 0, 1) := by decide +kernel
theorem dX7_end_1 : decode cX7_end 1 = .ok (.iconst 0, 1) := by decide +kernel
theorem dX7_end_2 : decode cX7_end 2 = .ok (.putfield 79, 3) := by decide +kernel
theorem dX7_end_5 : decode cX7_end 5 = .ok (.aload_n 0, 1) := by decide +kernel
theorem dX7_end_6 : decode cX7_end 6 = .ok (.aload_n 0, 1) := by decide +kernel
theorem dX7_end_7 : decode cX7_end 7 = .ok (.iload_n 1, 1) := by decide +kernel
theorem dX7_end_8 : decode cX7_end 8 = .ok (.invokevirtual 172, 3) := by decide +kernel
theorem dX7_end_11 : decode cX7_end 11 = .ok (.ifCond .ne 7, 3) := by decide +kernel
theorem dX7_end_14 : decode cX7_end 14 = .ok (.iconst 1, 1) := by decide +kernel
theorem dX7_end_15 : decode cX7_end 15 = .ok (.goto 4, 3) := by decide +kernel
theorem dX7_end_18 : decode cX7_end 18 = .ok (.iconst 0, 1) := by decide +kernel
theorem dX7_end_19 : decode cX7_end 19 = .ok (.iconst 1, 1) := by decide +kernel
theorem dX7_end_20 : decode cX7_end 20 = .ok (.invokevirtual 154, 3) := by decide +kernel
theorem dX7_end_23 : decode cX7_end 23 = .ok (.ifCond .eq 7, 3) := by decide +kernel
theorem dX7_end_26 : decode cX7_end 26 = .ok (.iconst 0, 1) := by decide +kernel
theorem dX7_end_27 : decode cX7_end 27 = .ok (.goto 8, 3) := by decide +kernel
theorem dX7_end_30 : decode cX7_end 30 = .ok (.aload_n 0, 1) := by decide +kernel
theorem dX7_end_31 : decode cX7_end 31 = .ok (.iload_n 1, 1) := by decide +kernel
theorem dX7_end_32 : decode cX7_end 32 = .ok (.invokevirtual 183, 3) := by decide +kernel
theorem dX7_end_35 : decode cX7_end 35 = .ok (.ireturn, 1) := by decide +kernel
theorem dX7_begins_0 : decode cX7_begins 0 = .ok (.aload_n 0, 1) := by decide +kernel
theorem dX7_begins_1 : decode cX7_begins 1 = .ok (.iconst 0, 1) := by decide +kernel
theorem dX7_begins_2 : decode cX7_begins 2 = .ok (.putfield 79, 3) := by decide +kernel
theorem dX7_begins_5 : decode cX7_begins 5 = .ok (.aload_n 0, 1) := by decide +kernel
theorem dX7_begins_6 : decode cX7_begins 6 = .ok (.aload_n 0, 1) := by decide +kernel
theorem dX7_begins_7 : decode cX7_begins 7 = .ok (.iload_n 2, 1) := by decide +kernel
theorem dX7_begins_8 : decode cX7_begins 8 = .ok (.invokevirtual 164, 3) := by decide +kernel
theorem dX7_begins_11 : decode cX7_begins 11 = .ok (.ifCond .ne 7, 3) := by decide +kernel
theorem dX7_begins_14 : decode cX7_begins 14 = .ok (.iconst 1, 1) := by decide +kernel
theorem dX7_begins_15 : decode cX7_begins 15 = .ok (.goto 4, 3) := by decide +kernel
theorem dX7_begins_18 : decode cX7_begins 18 = .ok (.iconst 0, 1) := by decide +kernel
theorem dX7_begins_19 : decode cX7_begins 19 = .ok (.iconst 1, 1) := by decide +kernel
theorem dX7_begins_20 : decode cX7_begins 20 = .ok (.invokevirtual 154, 3) := by decide +kernel
theorem dX7_begins_23 : decode cX7_begins 23 = .ok (.ifCond .ne 24, 3) := by decide +kernel
theorem dX7_begins_26 : decode cX7_begins 26 = .ok (.aload_n 0, 1) := by decide +kernel
theorem dX7_begins_27 : decode cX7_begins 27 = .ok (.aload_n 0, 1) := by decide +kernel
theorem dX7_begins_28 : decode cX7_begins 28 = .ok (.iload_n 1, 1) := by decide +kernel
theorem dX7_begins_29 : decode cX7_begins 29 = .ok (.invokevirtual 172, 3) := by decide +kernel
theorem dX7_begins_32 : decode cX7_begins 32 = .ok (.ifCond .ne 7, 3) := by decide +kernel
theorem dX7_begins_35 : decode cX7_begins 35 = .ok (.iconst 1, 1) := by decide +kernel
theorem dX7_begins_36 : decode cX7_begins 36 = .ok (.goto 4, 3) := by decide +kernel
theorem dX7_begins_39 : decode cX7_begins 39 = .ok (.iconst 0, 1) := by decide +kernel
theorem dX7_begins_40 : decode cX7_begins 40 = .ok (.iconst 2, 1) := by decide +kernel
theorem dX7_begins_41 : decode cX7_begins 41 = .ok (.invokevirtual 154, 3) := by decide +kernel
theorem dX7_begins_44 : decode cX7_begins 44 = .ok (.ifCond .eq 5, 3) := by decide +kernel
theorem dX7_begins_47 : decode cX7_begins 47 = .ok (.iconst 0, 1) := by decide +kernel
theorem dX7_begins_48 : decode cX7_begins 48 = .ok (.ireturn, 1) := by decide +kernel
theorem dX7_begins_49 : decode cX7_begins 49 = .ok (.aload_n 0, 1) := by decide +kernel
theorem dX7_begins_50 : decode cX7_begins 50 = .ok (.iload_n 1, 1) := by decide +kernel
theorem dX7_begins_51 : decode cX7_begins 51 = .ok (.invokevirtual 183, 3) := by decide +kernel
theorem dX7_begins_54 : decode cX7_begins 54 = .ok (.pop, 1) := by decide +kernel
theorem dX7_begins_55 : decode cX7_begins 55 = .ok (.aload_n 0, 1) := by decide +kernel
theorem dX7_begins_56 : decode cX7_begins 56 = .ok (.getfield 55, 3) := by decide +kernel
theorem dX7_begins_59 : decode cX7_begins 59 = .ok (.iload_n 2, 1) := by decide +kernel
theorem dX7_begins_60 : decode cX7_begins 60 = .ok (.iaload, 1) := by decide +kernel
theorem dX7_begins_61 : decode cX7_begins 61 = .ok (.ireturn, 1) := by decide +kernel
theorem dX7_isUsed_0 : decode cX7_isUsed 0 = .ok (.iconst 0, 1) := by decide +kernel
theorem dX7_isUsed_1 : decode cX7_isUsed 1 = .ok (.istore_n 3, 1) := by decide +kernel
theorem dX7_isUsed_2 : decode cX7_isUsed 2 = .ok (.iload_n 3, 1) := by decide +kernel
theorem dX7_isUsed_3 : decode cX7_isUsed 3 = .ok (.iload_n 1, 1) := by decide +kernel
theorem dX7_isUsed_4 : decode cX7_isUsed 4 = .ok (.if_icmp .ge 21, 3) := by decide +kernel
theorem dX7_isUsed_7 : decode cX7_isUsed 7 = .ok (.aload_n 0, 1) := by decide +kernel
theorem dX7_isUsed_8 : decode cX7_isUsed 8 = .ok (.getfield 36, 3) := by decide +kernel
theorem dX7_isUsed_11 : decode cX7_isUsed 11 = .ok (.iload_n 3, 1) := by decide +kernel
theorem dX7_isUsed_12 : decode cX7_isUsed 12 = .ok (.iaload, 1) := by decide +kernel
theorem dX7_isUsed_13 : decode cX7_isUsed 13 = .ok (.iload_n 2, 1) := by decide +kernel
theorem dX7_isUsed_14 : decode cX7_isUsed 14 = .ok (.if_icmp .ne 5, 3) := by decide +kernel
theorem dX7_isUsed_17 : decode cX7_isUsed 17 = .ok (.iconst 1, 1) := by decide +kernel
theorem dX7_isUsed_18 : decode cX7_isUsed 18 = .ok (.ireturn, 1) := by decide +kernel
theorem dX7_isUsed_19 : decode cX7_isUsed 19 = .ok (.iinc 3 1, 3) := by decide +kernel
theorem dX7_isUsed_22 : decode cX7_isUsed 22 = .ok (.goto (-20), 3) := by decide +kernel
theorem dX7_isUsed_25 : decode cX7_isUsed 25 = .ok (.iconst 0, 1) := by decide +kernel
theorem dX7_isUsed_26 : decode cX7_isUsed 26 = .ok (.ireturn, 1) := by decide +kernel
theorem dX7_isNext_0 : decode cX7_isNext 0 = .ok (.aload_n 0, 1) := by decide +kernel
theorem dX7_isNext_1 : decode cX7_isNext 1 = .ok (.getfield 144, 3) := by decide +kernel
theorem dX7_isNext_4 : decode cX7_isNext 4 = .ok (.iconst 1, 1) := by decide +kernel
theorem dX7_isNext_5 : decode cX7_isNext 5 = .ok (.isub, 1) := by decide +kernel
theorem dX7_isNext_6 : decode cX7_isNext 6 = .ok (.istore_n 1, 1) := by decide +kernel
theorem dX7_isNext_7 : decode cX7_isNext 7 = .ok (.iload_n 1, 1) := by decide +kernel
theorem dX7_isNext_8 : decode cX7_isNext 8 = .ok (.ifCond .lt 106, 3) := by decide +kernel
theorem dX7_isNext_11 : decode cX7_isNext 11 = .ok (.aload_n 0, 1) := by decide +kernel
theorem dX7_isNext_12 : decode cX7_isNext 12 = .ok (.getfield 36, 3) := by decide +kernel
theorem dX7_isNext_15 : decode cX7_isNext 15 = .ok (.iload_n 1, 1) := by decide +kernel
theorem dX7_isNext_16 : decode cX7_isNext 16 = .ok (.iaload, 1) := by decide +kernel
theorem dX7_isNext_17 : decode cX7_isNext 17 = .ok (.iconst 1, 1) := by decide +kernel
theorem dX7_isNext_18 : decode cX7_isNext 18 = .ok (.iadd, 1) := by decide +kernel
theorem dX7_isNext_19 : decode cX7_isNext 19 = .ok (.istore_n 2, 1) := by decide +kernel
theorem dX7_isNext_20 : decode cX7_isNext 20 = .ok (.iload_n 2, 1) := by decide +kernel
theorem dX7_isNext_21 : decode cX7_isNext 21 = .ok (.aload_n 0, 1) := by decide +kernel
theorem dX7_isNext_22 : decode cX7_isNext 22 = .ok (.getfield 144, 3) := by decide +kernel
theorem dX7_isNext_25 : decode cX7_isNext 25 = .ok (.if_icmp .ge 18, 3) := by decide +kernel
theorem dX7_isNext_28 : decode cX7_isNext 28 = .ok (.aload_n 0, 1) := by decide +kernel
theorem dX7_isNext_29 : decode cX7_isNext 29 = .ok (.iload_n 1, 1) := by decide +kernel
theorem dX7_isNext_30 : decode cX7_isNext 30 = .ok (.iload_n 2, 1) := by decide +kernel
theorem dX7_isNext_31 : decode cX7_isNext 31 = .ok (.invokevirtual 186, 3) := by decide +kernel
theorem dX7_isNext_34 : decode cX7_isNext 34 = .ok (.ifCond .eq 9, 3) := by decide +kernel
theorem dX7_isNext_37 : decode cX7_isNext 37 = .ok (.iinc 2 1, 3) := by decide +kernel
theorem dX7_isNext_40 : decode cX7_isNext 40 = .ok (.goto (-20), 3) := by decide +kernel
theorem dX7_isNext_43 : decode cX7_isNext 43 = .ok (.iload_n 2, 1) := by decide +kernel
theorem dX7_isNext_44 : decode cX7_isNext 44 = .ok (.aload_n 0, 1) := by decide +kernel
theorem dX7_isNext_45 : decode cX7_isNext 45 = .ok (.getfield 144, 3) := by decide +kernel
theorem dX7_isNext_48 : decode cX7_isNext 48 = .ok (.if_icmp .ne 6, 3) := by decide +kernel
theorem dX7_isNext_51 : decode cX7_isNext 51 = .ok (.goto 57, 3) := by decide +kernel
theorem dX7_isNext_54 : decode cX7_isNext 54 = .ok (.aload_n 0, 1) := by decide +kernel
theorem dX7_isNext_55 : decode cX7_isNext 55 = .ok (.getfield 36, 3) := by decide +kernel
theorem dX7_isNext_58 : decode cX7_isNext 58 = .ok (.iload_n 1, 1) := by decide +kernel
theorem dX7_isNext_59 : decode cX7_isNext 59 = .ok (.iload_n 2, 1) := by decide +kernel
theorem dX7_isNext_60 : decode cX7_isNext 60 = .ok (.iastore, 1) := by decide +kernel
theorem dX7_isNext_61 : decode cX7_isNext 61 = .ok (.iload_n 1, 1) := by decide +kernel
theorem dX7_isNext_62 : decode cX7_isNext 62 = .ok (.iconst 1, 1) := by decide +kernel
theorem dX7_isNext_63 : decode cX7_isNext 63 = .ok (.iadd, 1) := by decide +kernel
theorem dX7_isNext_64 : decode cX7_isNext 64 = .ok (.istore_n 3, 1) := by decide +kernel
theorem dX7_isNext_65 : decode cX7_isNext 65 = .ok (.iload_n 3, 1) := by decide +kernel
theorem dX7_isNext_66 : decode cX7_isNext 66 = .ok (.aload_n 0, 1) := by decide +kernel
theorem dX7_isNext_67 : decode cX7_isNext 67 = .ok (.getfield 144, 3) := by decide +kernel
theorem dX7_isNext_70 : decode cX7_isNext 70 = .ok (.if_icmp .ge 36, 3) := by decide +kernel
theorem dX7_isNext_73 : decode cX7_isNext 73 = .ok (.iconst 0, 1) := by decide +kernel
theorem dX7_isNext_74 : decode cX7_isNext 74 = .ok (.istore 4, 2) := by decide +kernel
