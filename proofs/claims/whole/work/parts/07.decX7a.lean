theorem dX7_init_0 : decode cX7_init 0 = .ok (.aload_n 0, 1) := by decide +kernel
theorem dX7_init_1 : decode cX7_init 1 = .ok (.invokespecial 1, 3) := by decide +kernel
theorem dX7_init_4 : decode cX7_init 4 = .ok (.aload_n 0, 1) := by decide +kernel
theorem dX7_init_5 : decode cX7_init 5 = .ok (.sipush 200, 3) := by decide +kernel
theorem dX7_init_8 : decode cX7_init 8 = .ok (.newarray .byte, 2) := by decide +kernel
theorem dX7_init_10 : decode cX7_init 10 = .ok (.putfield 7, 3) := by decide +kernel
theorem dX7_init_13 : decode cX7_init 13 = .ok (.aload_n 0, 1) := by decide +kernel
theorem dX7_init_14 : decode cX7_init 14 = .ok (.iconst (-1), 1) := by decide +kernel
theorem dX7_init_15 : decode cX7_init 15 = .ok (.putfield 13, 3) := by decide +kernel
theorem dX7_init_18 : decode cX7_init 18 = .ok (.aload_n 0, 1) := by decide +kernel
theorem dX7_init_19 : decode cX7_init 19 = .ok (.bipush 16, 2) := by decide +kernel
theorem dX7_init_21 : decode cX7_init 21 = .ok (.newarray .int, 2) := by decide +kernel
theorem dX7_init_23 : decode cX7_init 23 = .ok (.putfield 17, 3) := by decide +kernel
theorem dX7_init_26 : decode cX7_init 26 = .ok (.aload_n 0, 1) := by decide +kernel
theorem dX7_init_27 : decode cX7_init 27 = .ok (.bipush 16, 2) := by decide +kernel
theorem dX7_init_29 : decode cX7_init 29 = .ok (.newarray .int, 2) := by decide +kernel
theorem dX7_init_31 : decode cX7_init 31 = .ok (.putfield 21, 3) := by decide +kernel
theorem dX7_init_34 : decode cX7_init 34 = .ok (.aload_n 0, 1) := by decide +kernel
theorem dX7_init_35 : decode cX7_init 35 = .ok (.bipush 16, 2) := by decide +kernel
theorem dX7_init_37 : decode cX7_init 37 = .ok (.newarray .int, 2) := by decide +kernel
theorem dX7_init_39 : decode cX7_init 39 = .ok (.putfield 24, 3) := by decide +kernel
theorem dX7_init_42 : decode cX7_init 42 = .ok (.aload_n 0, 1) := by decide +kernel
theorem dX7_init_43 : decode cX7_init 43 = .ok (.bipush 16, 2) := by decide +kernel
theorem dX7_init_45 : decode cX7_init 45 = .ok (.newarray .int, 2) := by decide +kernel
theorem dX7_init_47 : decode cX7_init 47 = .ok (.putfield 27, 3) := by decide +kernel
theorem dX7_init_50 : decode cX7_init 50 = .ok (.aload_n 0, 1) := by decide +kernel
theorem dX7_init_51 : decode cX7_init 51 = .ok (.bipush 16, 2) := by decide +kernel
theorem dX7_init_53 : decode cX7_init 53 = .ok (.newarray .int, 2) := by decide +kernel
theorem dX7_init_55 : decode cX7_init 55 = .ok (.putfield 30, 3) := by decide +kernel
theorem dX7_init_58 : decode cX7_init 58 = .ok (.aload_n 0, 1) := by decide +kernel
theorem dX7_init_59 : decode cX7_init 59 = .ok (.bipush 16, 2) := by decide +kernel
theorem dX7_init_61 : decode cX7_init 61 = .ok (.newarray .int, 2) := by decide +kernel
theorem dX7_init_63 : decode cX7_init 63 = .ok (.putfield 33, 3) := by decide +kernel
theorem dX7_init_66 : decode cX7_init 66 = .ok (.aload_n 0, 1) := by decide +kernel
theorem dX7_init_67 : decode cX7_init 67 = .ok (.bipush 16, 2) := by decide +kernel
theorem dX7_init_69 : decode cX7_init 69 = .ok (.newarray .int, 2) := by decide +kernel
theorem dX7_init_71 : decode cX7_init 71 = .ok (.putfield 36, 3) := by decide +kernel
theorem dX7_init_74 : decode cX7_init 74 = .ok (.aload_n 0, 1) := by decide +kernel
theorem dX7_init_75 : decode cX7_init 75 = .ok (.bipush 30, 2) := by decide +kernel
theorem dX7_init_77 : decode cX7_init 77 = .ok (.putfield 39, 3) := by decide +kernel
theorem dX7_init_80 : decode cX7_init 80 = .ok (.aload_n 0, 1) := by decide +kernel
theorem dX7_init_81 : decode cX7_init 81 = .ok (.bipush 100, 2) := by decide +kernel
theorem dX7_init_83 : decode cX7_init 83 = .ok (.putfield 42, 3) := by decide +kernel
theorem dX7_init_86 : decode cX7_init 86 = .ok (.aload_n 0, 1) := by decide +kernel
theorem dX7_init_87 : decode cX7_init 87 = .ok (.iconst 5, 1) := by decide +kernel
theorem dX7_init_88 : decode cX7_init 88 = .ok (.newarray .boolean, 2) := by decide +kernel
theorem dX7_init_90 : decode cX7_init 90 = .ok (.putfield 45, 3) := by decide +kernel
theorem dX7_init_93 : decode cX7_init 93 = .ok (.aload_n 0, 1) := by decide +kernel
theorem dX7_init_94 : decode cX7_init 94 = .ok (.bipush 20, 2) := by decide +kernel
theorem dX7_init_96 : decode cX7_init 96 = .ok (.newarray .int, 2) := by decide +kernel
theorem dX7_init_98 : decode cX7_init 98 = .ok (.putfield 49, 3) := by decide +kernel
theorem dX7_init_101 : decode cX7_init 101 = .ok (.aload_n 0, 1) := by decide +kernel
theorem dX7_init_102 : decode cX7_init 102 = .ok (.sipush 320, 3) := by decide +kernel
theorem dX7_init_105 : decode cX7_init 105 = .ok (.newarray .int, 2) := by decide +kernel
theorem dX7_init_107 : decode cX7_init 107 = .ok (.putfield 52, 3) := by decide +kernel
theorem dX7_init_110 : decode cX7_init 110 = .ok (.aload_n 0, 1) := by decide +kernel
theorem dX7_init_111 : decode cX7_init 111 = .ok (.bipush 16, 2) := by decide +kernel
theorem dX7_init_113 : decode cX7_init 113 = .ok (.newarray .int, 2) := by decide +kernel
theorem dX7_init_115 : decode cX7_init 115 = .ok (.putfield 55, 3) := by decide +kernel
theorem dX7_init_118 : decode cX7_init 118 = .ok (.aload_n 0, 1) := by decide +kernel
theorem dX7_init_119 : decode cX7_init 119 = .ok (.bipush 16, 2) := by decide +kernel
theorem dX7_init_121 : decode cX7_init 121 = .ok (.newarray .int, 2) := by decide +kernel
theorem dX7_init_123 : decode cX7_init 123 = .ok (.putfield 58, 3) := by decide +kernel
theorem dX7_init_126 : decode cX7_init 126 = .ok (.aload_n 0, 1) := by decide +kernel
theorem dX7_init_127 : decode cX7_init 127 = .ok (.bipush 16, 2) := by decide +kernel
theorem dX7_init_129 : decode cX7_init 129 = .ok (.newarray .int, 2) := by decide +kernel
theorem dX7_init_131 : decode cX7_init 131 = .ok (.putfield 61, 3) := by decide +kernel
theorem dX7_init_134 : decode cX7_init 134 = .ok (.aload_n 0, 1) := by decide +kernel
theorem dX7_init_135 : decode cX7_init 135 = .ok (.bipush 16, 2) := by decide +kernel
theorem dX7_init_137 : decode cX7_init 137 = .ok (.newarray .int, 2) := by decide +kernel
theorem dX7_init_139 : decode cX7_init 139 = .ok (.putfield 64, 3) := by decide +kernel
theorem dX7_init_142 : decode cX7_init 142 = .ok (.aload_n 0, 1) := by decide +kernel
theorem dX7_init_143 : decode cX7_init 143 = .ok (.sipush 320, 3) := by decide +kernel
theorem dX7_init_146 : decode cX7_init 146 = .ok (.newarray .int, 2) := by decide +kernel
theorem dX7_init_148 : decode cX7_init 148 = .ok (.putfield 67, 3) := by decide +kernel
theorem dX7_init_151 : decode cX7_init 151 = .ok (.aload_n 0, 1) := by decide +kernel
theorem dX7_init_152 : decode cX7_init 152 = .ok (.bipush 30, 2) := by decide +kernel
theorem dX7_init_154 : decode cX7_init 154 = .ok (.newarray .int, 2) := by decide +kernel
theorem dX7_init_156 : decode cX7_init 156 = .ok (.putfield 70, 3) := by decide +kernel
theorem dX7_init_159 : decode cX7_init 159 = .ok (.aload_n 0, 1) := by decide +kernel
theorem dX7_init_160 : decode cX7_init 160 = .ok (.bipush 30, 2) := by decide +kernel
theorem dX7_init_162 : decode cX7_init 162 = .ok (.newarray .int, 2) := by decide +kernel
theorem dX7_init_164 : decode cX7_init 164 = .ok (.putfield 73, 3) := by decide +kernel
theorem dX7_init_167 : decode cX7_init 167 = .ok (.aload_n 0, 1) := by decide +kernel
theorem dX7_init_168 : decode cX7_init 168 = .ok (.bipush 30, 2) := by decide +kernel
theorem dX7_init_170 : decode cX7_init 170 = .ok (.newarray .int, 2) := by decide +kernel
theorem dX7_init_172 : decode cX7_init 172 = .ok (.putfield 76, 3) := by decide +kernel
theorem dX7_init_175 : decode cX7_init 175 = .ok (.return_, 1) := by decide +kernel
theorem dX7_thrown_0 : decode cX7_thrown 0 = .ok (.aload_n 0, 1) := by decide +kernel
theorem dX7_thrown_1 : decode cX7_thrown 1 = .ok (.getfield 79, 3) := by decide +kernel
theorem dX7_thrown_4 : decode cX7_thrown 4 = .ok (.ireturn, 1) := by decide +kernel
theorem dX7_bad_0 : decode cX7_bad 0 = .ok (.iload_n 1, 1) := by decide +kernel
theorem dX7_bad_1 : decode cX7_bad 1 = .ok (.ifCond .eq 8, 3) := by decide +kernel
theorem dX7_bad_4 : decode cX7_bad 4 = .ok (.aload_n 0, 1) := by decide +kernel
theorem dX7_bad_5 : decode cX7_bad 5 = .ok (.iload_n 2, 1) := by decide +kernel
theorem dX7_bad_6 : decode cX7_bad 6 = .ok (.putfield 79, 3) := by decide +kernel
theorem dX7_bad_9 : decode cX7_bad 9 = .ok (.iload_n 1, 1) := by decide +kernel
theorem dX7_bad_10 : decode cX7_bad 10 = .ok (.ireturn, 1) := by decide +kernel
theorem dX7_feed_0 : decode cX7_feed 0 = .ok (.aload_n 0, 1) := by decide +kernel
theorem dX7_feed_1 : decode cX7_feed 1 = .ok (.iconst 0, 1) := by decide +kernel
theorem dX7_feed_2 : decode cX7_feed 2 = .ok (.putfield 79, 3) := by decide +kernel
theorem dX7_feed_5 : decode cX7_feed 5 = .ok (.aload_n 0, 1) := by decide +kernel
theorem dX7_feed_6 : decode cX7_feed 6 = .ok (.getfield 82, 3) := by decide +kernel
theorem dX7_feed_9 : decode cX7_feed 9 = .ok (.bipush 20, 2) := by decide +kernel
theorem dX7_feed_11 : decode cX7_feed 11 = .ok (.iadd, 1) := by decide +kernel
theorem dX7_feed_12 : decode cX7_feed 12 = .ok (.sipush 200, 3) := by decide +kernel
theorem dX7_feed_15 : decode cX7_feed 15 = .ok (.if_icmp .le 5, 3) := by decide +kernel
theorem dX7_feed_18 : decode cX7_feed 18 = .ok (.iconst (-1), 1) := by decide +kernel
theorem dX7_feed_19 : decode cX7_feed 19 = .ok (.ireturn, 1) := by decide +kernel
theorem dX7_feed_20 : decode cX7_feed 20 = .ok (.iconst 0, 1) := by decide +kernel
theorem dX7_feed_21 : decode cX7_feed 21 = .ok (.istore 6, 2) := by decide +kernel
theorem dX7_feed_23 : decode cX7_feed 23 = .ok (.iload 6, 2) := by decide +kernel
theorem dX7_feed_25 : decode cX7_feed 25 = .ok (.iconst 5, 1) := by decide +kernel
theorem dX7_feed_26 : decode cX7_feed 26 = .ok (.if_icmp .ge 93, 3) := by decide +kernel
theorem dX7_feed_29 : decode cX7_feed 29 = .ok (.iload 6, 2) := by decide +kernel
theorem dX7_feed_31 : decode cX7_feed 31 = .ok (.ifCond .ne 7, 3) := by decide +kernel
theorem dX7_feed_34 : decode cX7_feed 34 = .ok (.iload_n 1, 1) := by decide +kernel
theorem dX7_feed_35 : decode cX7_feed 35 = .ok (.goto 36, 3) := by decide +kernel
theorem dX7_feed_38 : decode cX7_feed 38 = .ok (.iload 6, 2) := by decide +kernel
theorem dX7_feed_40 : decode cX7_feed 40 = .ok (.iconst 1, 1) := by decide +kernel
theorem dX7_feed_41 : decode cX7_feed 41 = .ok (.if_icmp .ne 7, 3) := by decide +kernel
theorem dX7_feed_44 : decode cX7_feed 44 = .ok (.iload_n 2, 1) := by decide +kernel
theorem dX7_feed_45 : decode cX7_feed 45 = .ok (.goto 26, 3) := by decide +kernel
theorem dX7_feed_48 : decode cX7_feed 48 = .ok (.iload 6, 2) := by decide +kernel
theorem dX7_feed_50 : decode cX7_feed 50 = .ok (.iconst 2, 1) := by decide +kernel
theorem dX7_feed_51 : decode cX7_feed 51 = .ok (.if_icmp .ne 7, 3) := by decide +kernel
theorem dX7_feed_54 : decode cX7_feed 54 = .ok (.iload_n 3, 1) := by decide +kernel
theorem dX7_feed_55 : decode cX7_feed 55 = .ok (.goto 16, 3) := by decide +kernel
theorem dX7_feed_58 : decode cX7_feed 58 = .ok (.iload 6, 2) := by decide +kernel
theorem dX7_feed_60 : decode cX7_feed 60 = .ok (.iconst 3, 1) := by decide +kernel
theorem dX7_feed_61 : decode cX7_feed 61 = .ok (.if_icmp .ne 8, 3) := by decide +kernel
theorem dX7_feed_64 : decode cX7_feed 64 = .ok (.iload 4, 2) := by decide +kernel
theorem dX7_feed_66 : decode cX7_feed 66 = .ok (.goto 5, 3) := by decide +kernel
theorem dX7_feed_69 : decode cX7_feed 69 = .ok (.iload 5, 2) := by decide +kernel
theorem dX7_feed_71 : decode cX7_feed 71 = .ok (.istore 7, 2) := by decide +kernel
theorem dX7_feed_73 : decode cX7_feed 73 = .ok (.bipush 24, 2) := by decide +kernel
theorem dX7_feed_75 : decode cX7_feed 75 = .ok (.istore 8, 2) := by decide +kernel
theorem dX7_feed_77 : decode cX7_feed 77 = .ok (.iload 8, 2) := by decide +kernel
theorem dX7_feed_79 : decode cX7_feed 79 = .ok (.ifCond .lt 34, 3) := by decide +kernel
theorem dX7_feed_82 : decode cX7_feed 82 = .ok (.aload_n 0, 1) := by decide +kernel
theorem dX7_feed_83 : decode cX7_feed 83 = .ok (.getfield 7, 3) := by decide +kernel
theorem dX7_feed_86 : decode cX7_feed 86 = .ok (.aload_n 0, 1) := by decide +kernel
theorem dX7_feed_87 : decode cX7_feed 87 = .ok (.getfield 82, 3) := by decide +kernel
theorem dX7_feed_90 : decode cX7_feed 90 = .ok (.iload 7, 2) := by decide +kernel
theorem dX7_feed_92 : decode cX7_feed 92 = .ok (.iload 8, 2) := by decide +kernel
theorem dX7_feed_94 : decode cX7_feed 94 = .ok (.ishr, 1) := by decide +kernel
theorem dX7_feed_95 : decode cX7_feed 95 = .ok (.i2b, 1) := by decide +kernel
theorem dX7_feed_96 : decode cX7_feed 96 = .ok (.bastore, 1) := by decide +kernel
theorem dX7_feed_97 : decode cX7_feed 97 = .ok (.aload_n 0, 1) := by decide +kernel
theorem dX7_feed_98 : decode cX7_feed 98 = .ok (.dup, 1) := by decide +kernel
theorem dX7_feed_99 : decode cX7_feed 99 = .ok (.getfield 82, 3) := by decide +kernel
theorem dX7_feed_102 : decode cX7_feed 102 = .ok (.iconst 1, 1) := by decide +kernel
theorem dX7_feed_103 : decode cX7_feed 103 = .ok (.iadd, 1) := by decide +kernel
theorem dX7_feed_104 : decode cX7_feed 104 = .ok (.putfield 82, 3) := by decide +kernel
theorem dX7_feed_107 : decode cX7_feed 107 = .ok (.iinc 8 (-8), 3) := by decide +kernel
theorem dX7_feed_110 : decode cX7_feed 110 = .ok (.goto (-33), 3) := by decide +kernel
theorem dX7_feed_113 : decode cX7_feed 113 = .ok (.iinc 6 1, 3) := by decide +kernel
theorem dX7_feed_116 : decode cX7_feed 116 = .ok (.goto (-93), 3) := by decide +kernel
theorem dX7_feed_119 : decode cX7_feed 119 = .ok (.aload_n 0, 1) := by decide +kernel
theorem dX7_feed_120 : decode cX7_feed 120 = .ok (.getfield 82, 3) := by decide +kernel
theorem dX7_feed_123 : decode cX7_feed 123 = .ok (.ireturn, 1) := by decide +kernel
theorem dX7_byteAt_0 : decode cX7_byteAt 0 = .ok (.iload_n 1, 1) := by decide +kernel
theorem dX7_byteAt_1 : decode cX7_byteAt 1 = .ok (.aload_n 0, 1) := by decide +kernel
theorem dX7_byteAt_2 : decode cX7_byteAt 2 = .ok (.getfield 85, 3) := by decide +kernel
theorem dX7_byteAt_5 : decode cX7_byteAt 5 = .ok (.if_icmp .ge 16, 3) := by decide +kernel
theorem dX7_byteAt_8 : decode cX7_byteAt 8 = .ok (.aload_n 0, 1) := by decide +kernel
theorem dX7_byteAt_9 : decode cX7_byteAt 9 = .ok (.getfield 7, 3) := by decide +kernel
theorem dX7_byteAt_12 : decode cX7_byteAt 12 = .ok (.iload_n 1, 1) := by decide +kernel
theorem dX7_byteAt_13 : decode cX7_byteAt 13 = .ok (.baload, 1) := by decide +kernel
theorem dX7_byteAt_14 : decode cX7_byteAt 14 = .ok (.sipush 255, 3) := by decide +kernel
theorem dX7_byteAt_17 : decode cX7_byteAt 17 = .ok (.iand, 1) := by decide +kernel
theorem dX7_byteAt_18 : decode cX7_byteAt 18 = .ok (.goto 4, 3) := by decide +kernel
theorem dX7_byteAt_21 : decode cX7_byteAt 21 = .ok (.iconst 0, 1) := by decide +kernel
theorem dX7_byteAt_22 : decode cX7_byteAt 22 = .ok (.ireturn, 1) := by decide +kernel
theorem dX7_blanks_0 : decode cX7_blanks 0 = .ok (.aload_n 0, 1) := by decide +kernel
theorem dX7_blanks_1 : decode cX7_blanks 1 = .ok (.getfield 88, 3) := by decide +kernel
theorem dX7_blanks_4 : decode cX7_blanks 4 = .ok (.aload_n 0, 1) := by decide +kernel
theorem dX7_blanks_5 : decode cX7_blanks 5 = .ok (.getfield 85, 3) := by decide +kernel
theorem dX7_blanks_8 : decode cX7_blanks 8 = .ok (.if_icmp .ge 29, 3) := by decide +kernel
theorem dX7_blanks_11 : decode cX7_blanks 11 = .ok (.aload_n 0, 1) := by decide +kernel
theorem dX7_blanks_12 : decode cX7_blanks 12 = .ok (.aload_n 0, 1) := by decide +kernel
theorem dX7_blanks_13 : decode cX7_blanks 13 = .ok (.getfield 88, 3) := by decide +kernel
theorem dX7_blanks_16 : decode cX7_blanks 16 = .ok (.invokevirtual 91, 3) := by decide +kernel
theorem dX7_blanks_19 : decode cX7_blanks 19 = .ok (.bipush 32, 2) := by decide +kernel
theorem dX7_blanks_21 : decode cX7_blanks 21 = .ok (.if_icmp .ne 16, 3) := by decide +kernel
theorem dX7_blanks_24 : decode cX7_blanks 24 = .ok (.aload_n 0, 1) := by decide +kernel
theorem dX7_blanks_25 : decode cX7_blanks 25 = .ok (.dup, 1) := by decide +kernel
theorem dX7_blanks_26 : decode cX7_blanks 26 = .ok (.getfield 88, 3) := by decide +kernel
theorem dX7_blanks_29 : decode cX7_blanks 29 = .ok (.iconst 1, 1) := by decide +kernel
theorem dX7_blanks_30 : decode cX7_blanks 30 = .ok (.iadd, 1) := by decide +kernel
theorem dX7_blanks_31 : decode cX7_blanks 31 = .ok (.putfield 88, 3) := by decide +kernel
theorem dX7_blanks_34 : decode cX7_blanks 34 = .ok (.goto (-34), 3) := by decide +kernel
theorem dX7_blanks_37 : decode cX7_blanks 37 = .ok (.return_, 1) := by decide +kernel
theorem dX7_isDigit_0 : decode cX7_isDigit 0 = .ok (.iload_n 0, 1) := by decide +kernel
theorem dX7_isDigit_1 : decode cX7_isDigit 1 = .ok (.bipush 48, 2) := by decide +kernel
theorem dX7_isDigit_3 : decode cX7_isDigit 3 = .ok (.if_icmp .lt 13, 3) := by decide +kernel
theorem dX7_isDigit_6 : decode cX7_isDigit 6 = .ok (.iload_n 0, 1) := by decide +kernel
theorem dX7_isDigit_7 : decode cX7_isDigit 7 = .ok (.bipush 57, 2) := by decide +kernel
theorem dX7_isDigit_9 : decode cX7_isDigit 9 = .ok (.if_icmp .gt 7, 3) := by decide +kernel
theorem dX7_isDigit_12 : decode cX7_isDigit 12 = .ok (.iconst 1, 1) := by decide +kernel
theorem dX7_isDigit_13 : decode cX7_isDigit 13 = .ok (.goto 4, 3) := by decide +kernel
theorem dX7_isDigit_16 : decode cX7_isDigit 16 = .ok (.iconst 0, 1) := by decide +kernel
theorem dX7_isDigit_17 : decode cX7_isDigit 17 = .ok (.ireturn, 1) := by decide +kernel
theorem dX7_wrong_0 : decode cX7_wrong 0 = .ok (.aload_n 0, 1) := by decide +kernel
theorem dX7_wrong_1 : decode cX7_wrong 1 = .ok (.getfield 95, 3) := by decide +kernel
theorem dX7_wrong_4 : decode cX7_wrong 4 = .ok (.ifCond .le 4, 3) := by decide +kernel
theorem dX7_wrong_7 : decode cX7_wrong 7 = .ok (.return_, 1) := by decide +kernel
theorem dX7_wrong_8 : decode cX7_wrong 8 = .ok (.aload_n 0, 1) := by decide +kernel
theorem dX7_wrong_9 : decode cX7_wrong 9 = .ok (.iload_n 1, 1) := by decide +kernel
theorem dX7_wrong_10 : decode cX7_wrong 10 = .ok (.putfield 95, 3) := by decide +kernel
theorem dX7_wrong_13 : decode cX7_wrong 13 = .ok (.aload_n 0, 1) := by decide +kernel
theorem dX7_wrong_14 : decode cX7_wrong 14 = .ok (.iload_n 2, 1) := by decide +kernel
theorem dX7_wrong_15 : decode cX7_wrong 15 = .ok (.putfield 13, 3) := by decide +kernel
theorem dX7_wrong_18 : decode cX7_wrong 18 = .ok (.return_, 1) := by decide +kernel
theorem dX7_isWord_0 : decode cX7_isWord 0 = .ok (.aload_n 0, 1) := by decide +kernel
theorem dX7_isWord_1 : decode cX7_isWord 1 = .ok (.invokevirtual 98, 3) := by decide +kernel
theorem dX7_isWord_4 : decode cX7_isWord 4 = .ok (.iconst 0, 1) := by decide +kernel
theorem dX7_isWord_5 : decode cX7_isWord 5 = .ok (.istore_n 2, 1) := by decide +kernel
theorem dX7_isWord_6 : decode cX7_isWord 6 = .ok (.iload_n 2, 1) := by decide +kernel
theorem dX7_isWord_7 : decode cX7_isWord 7 = .ok (.aload_n 1, 1) := by decide +kernel
theorem dX7_isWord_8 : decode cX7_isWord 8 = .ok (.invokevirtual 101, 3) := by decide +kernel
theorem dX7_isWord_11 : decode cX7_isWord 11 = .ok (.if_icmp .ge 29, 3) := by decide +kernel
theorem dX7_isWord_14 : decode cX7_isWord 14 = .ok (.aload_n 0, 1) := by decide +kernel
theorem dX7_isWord_15 : decode cX7_isWord 15 = .ok (.aload_n 0, 1) := by decide +kernel
theorem dX7_isWord_16 : decode cX7_isWord 16 = .ok (.getfield 88, 3) := by decide +kernel
theorem dX7_isWord_19 : decode cX7_isWord 19 = .ok (.iload_n 2, 1) := by decide +kernel
theorem dX7_isWord_20 : decode cX7_isWord 20 = .ok (.iadd, 1) := by decide +kernel
theorem dX7_isWord_21 : decode cX7_isWord 21 = .ok (.invokevirtual 91, 3) := by decide +kernel
theorem dX7_isWord_24 : decode cX7_isWord 24 = .ok (.aload_n 1, 1) := by decide +kernel
theorem dX7_isWord_25 : decode cX7_isWord 25 = .ok (.iload_n 2, 1) := by decide +kernel
theorem dX7_isWord_26 : decode cX7_isWord 26 = .ok (.invokevirtual 107, 3) := by decide +kernel
theorem dX7_isWord_29 : decode cX7_isWord 29 = .ok (.if_icmp .eq 5, 3) := by decide +kernel
theorem dX7_isWord_32 : decode cX7_isWord 32 = .ok (.iconst 0, 1) := by decide +kernel
theorem dX7_isWord_33 : decode cX7_isWord 33 = .ok (.ireturn, 1) := by decide +kernel
theorem dX7_isWord_34 : decode cX7_isWord 34 = .ok (.iinc 2 1, 3) := by decide +kernel
theorem dX7_isWord_37 : decode cX7_isWord 37 = .ok (.goto (-31), 3) := by decide +kernel
theorem dX7_isWord_40 : decode cX7_isWord 40 = .ok (.aload_n 0, 1) := by decide +kernel
theorem dX7_isWord_41 : decode cX7_isWord 41 = .ok (.aload_n 0, 1) := by decide +kernel
theorem dX7_isWord_42 : decode cX7_isWord 42 = .ok (.getfield 88, 3) := by decide +kernel
theorem dX7_isWord_45 : decode cX7_isWord 45 = .ok (.aload_n 1, 1) := by decide +kernel
theorem dX7_isWord_46 : decode cX7_isWord 46 = .ok (.invokevirtual 101, 3) := by decide +kernel
theorem dX7_isWord_49 : decode cX7_isWord 49 = .ok (.iadd, 1) := by decide +kernel
theorem dX7_isWord_50 : decode cX7_isWord 50 = .ok (.invokevirtual 91, 3) := by decide +kernel
theorem dX7_isWord_53 : decode cX7_isWord 53 = .ok (.istore_n 2, 1) := by decide +kernel
theorem dX7_isWord_54 : decode cX7_isWord 54 = .ok (.iload_n 2, 1) := by decide +kernel
theorem dX7_isWord_55 : decode cX7_isWord 55 = .ok (.bipush 97, 2) := by decide +kernel
theorem dX7_isWord_57 : decode cX7_isWord 57 = .ok (.if_icmp .lt 9, 3) := by decide +kernel
theorem dX7_isWord_60 : decode cX7_isWord 60 = .ok (.iload_n 2, 1) := by decide +kernel
theorem dX7_isWord_61 : decode cX7_isWord 61 = .ok (.bipush 122, 2) := by decide +kernel
theorem dX7_isWord_63 : decode cX7_isWord 63 = .ok (.if_icmp .le 7, 3) := by decide +kernel
theorem dX7_isWord_66 : decode cX7_isWord 66 = .ok (.iconst 1, 1) := by decide +kernel
theorem dX7_isWord_67 : decode cX7_isWord 67 = .ok (.goto 4, 3) := by decide +kernel
theorem dX7_isWord_70 : decode cX7_isWord 70 = .ok (.iconst 0, 1) := by decide +kernel
theorem dX7_isWord_71 : decode cX7_isWord 71 = .ok (.ireturn, 1) := by decide +kernel
theorem dX7_wordOf_0 : decode cX7_wordOf 0 = .ok (.iload_n 0, 1) := by decide +kernel
theorem dX7_wordOf_1 : decode cX7_wordOf 1 = .ok (.tableswitch 64 0 6 #[43, 46, 49, 52, 55, 58, 61], 43) := by decide +kernel
theorem dX7_wordOf_44 : decode cX7_wordOf 44 = .ok (.ldc 111, 2) := by decide +kernel
theorem dX7_wordOf_46 : decode cX7_wordOf 46 = .ok (.areturn, 1) := by decide +kernel
theorem dX7_wordOf_47 : decode cX7_wordOf 47 = .ok (.ldc 113, 2) := by decide +kernel
theorem dX7_wordOf_49 : decode cX7_wordOf 49 = .ok (.areturn, 1) := by decide +kernel
theorem dX7_wordOf_50 : decode cX7_wordOf 50 = .ok (.ldc 115, 2) := by decide +kernel
theorem dX7_wordOf_52 : decode cX7_wordOf 52 = .ok (.areturn, 1) := by decide +kernel
theorem dX7_wordOf_53 : decode cX7_wordOf 53 = .ok (.ldc 116, 2) := by decide +kernel
theorem dX7_wordOf_55 : decode cX7_wordOf 55 = .ok (.areturn, 1) := by decide +kernel
theorem dX7_wordOf_56 : decode cX7_wordOf 56 = .ok (.ldc 117, 2) := by decide +kernel
theorem dX7_wordOf_58 : decode cX7_wordOf 58 = .ok (.areturn, 1) := by decide +kernel
theorem dX7_wordOf_59 : decode cX7_wordOf 59 = .ok (.ldc 118, 2) := by decide +kernel
theorem dX7_wordOf_61 : decode cX7_wordOf 61 = .ok (.areturn, 1) := by decide +kernel
theorem dX7_wordOf_62 : decode cX7_wordOf 62 = .ok (.ldc 120, 2) := by decide +kernel
theorem dX7_wordOf_64 : decode cX7_wordOf 64 = .ok (.areturn, 1) := by decide +kernel
theorem dX7_wordOf_65 : decode cX7_wordOf 65 = .ok (.ldc 122, 2) := by decide +kernel
theorem dX7_wordOf_67 : decode cX7_wordOf 67 = .ok (.areturn, 1) := by decide +kernel
theorem dX7_wordHere_0 : decode cX7_wordHere 0 = .ok (.iload_n 1, 1) := by decide +kernel
theorem dX7_wordHere_1 : decode cX7_wordHere 1 = .ok (.istore_n 3, 1) := by decide +kernel
theorem dX7_wordHere_2 : decode cX7_wordHere 2 = .ok (.iload_n 3, 1) := by decide +kernel
theorem dX7_wordHere_3 : decode cX7_wordHere 3 = .ok (.iload_n 2, 1) := by decide +kernel
theorem dX7_wordHere_4 : decode cX7_wordHere 4 = .ok (.if_icmp .ge 22, 3) := by decide +kernel
theorem dX7_wordHere_7 : decode cX7_wordHere 7 = .ok (.aload_n 0, 1) := by decide +kernel
theorem dX7_wordHere_8 : decode cX7_wordHere 8 = .ok (.iload_n 3, 1) := by decide +kernel
theorem dX7_wordHere_9 : decode cX7_wordHere 9 = .ok (.invokestatic 124, 3) := by decide +kernel
theorem dX7_wordHere_12 : decode cX7_wordHere 12 = .ok (.invokevirtual 128, 3) := by decide +kernel
theorem dX7_wordHere_15 : decode cX7_wordHere 15 = .ok (.ifCond .eq 5, 3) := by decide +kernel
theorem dX7_wordHere_18 : decode cX7_wordHere 18 = .ok (.iload_n 3, 1) := by decide +kernel
theorem dX7_wordHere_19 : decode cX7_wordHere 19 = .ok (.ireturn, 1) := by decide +kernel
theorem dX7_wordHere_20 : decode cX7_wordHere 20 = .ok (.iinc 3 1, 3) := by decide +kernel
theorem dX7_wordHere_23 : decode cX7_wordHere 23 = .ok (.goto (-21), 3) := by decide +kernel
theorem dX7_wordHere_26 : decode cX7_wordHere 26 = .ok (.iconst (-1), 1) := by decide +kernel
theorem dX7_wordHere_27 : decode cX7_wordHere 27 = .ok (.ireturn, 1) := by decide +kernel
theorem dX7_number_0 : decode cX7_number 0 = .ok (.aload_n 0, 1) := by decide +kernel
theorem dX7_number_1 : decode cX7_number 1 = .ok (.getfield 95, 3) := by decide +kernel
theorem dX7_number_4 : decode cX7_number 4 = .ok (.ifCond .le 5, 3) := by decide +kernel
theorem dX7_number_7 : decode cX7_number 7 = .ok (.iconst 0, 1) := by decide +kernel
theorem dX7_number_8 : decode cX7_number 8 = .ok (.ireturn, 1) := by decide +kernel
theorem dX7_number_9 : decode cX7_number 9 = .ok (.aload_n 0, 1) := by decide +kernel
theorem dX7_number_10 : decode cX7_number 10 = .ok (.invokevirtual 98, 3) := by decide +kernel
theorem dX7_number_13 : decode cX7_number 13 = .ok (.aload_n 0, 1) := by decide +kernel
theorem dX7_number_14 : decode cX7_number 14 = .ok (.getfield 88, 3) := by decide +kernel
theorem dX7_number_17 : decode cX7_number 17 = .ok (.istore_n 3, 1) := by decide +kernel
theorem dX7_number_18 : decode cX7_number 18 = .ok (.aload_n 0, 1) := by decide +kernel
theorem dX7_number_19 : decode cX7_number 19 = .ok (.aload_n 0, 1) := by decide +kernel
theorem dX7_number_20 : decode cX7_number 20 = .ok (.getfield 88, 3) := by decide +kernel
theorem dX7_number_23 : decode cX7_number 23 = .ok (.invokevirtual 91, 3) := by decide +kernel
theorem dX7_number_26 : decode cX7_number 26 = .ok (.invokestatic 132, 3) := by decide +kernel
theorem dX7_number_29 : decode cX7_number 29 = .ok (.ifCond .ne 14, 3) := by decide +kernel
theorem dX7_number_32 : decode cX7_number 32 = .ok (.aload_n 0, 1) := by decide +kernel
theorem dX7_number_33 : decode cX7_number 33 = .ok (.iconst 1, 1) := by decide +kernel
theorem dX7_number_34 : decode cX7_number 34 = .ok (.aload_n 0, 1) := by decide +kernel
theorem dX7_number_35 : decode cX7_number 35 = .ok (.getfield 88, 3) := by decide +kernel
theorem dX7_number_38 : decode cX7_number 38 = .ok (.invokevirtual 136, 3) := by decide +kernel
theorem dX7_number_41 : decode cX7_number 41 = .ok (.iconst 0, 1) := by decide +kernel
theorem dX7_number_42 : decode cX7_number 42 = .ok (.ireturn, 1) := by decide +kernel
theorem dX7_number_43 : decode cX7_number 43 = .ok (.iconst 0, 1) := by decide +kernel
theorem dX7_number_44 : decode cX7_number 44 = .ok (.istore 4, 2) := by decide +kernel
theorem dX7_number_46 : decode cX7_number 46 = .ok (.aload_n 0, 1) := by decide +kernel
theorem dX7_number_47 : decode cX7_number 47 = .ok (.aload_n 0, 1) := by decide +kernel
theorem dX7_number_48 : decode cX7_number 48 = .ok (.getfield 88, 3) := by decide +kernel
theorem dX7_number_51 : decode cX7_number 51 = .ok (.invokevirtual 91, 3) := by decide +kernel
theorem dX7_number_54 : decode cX7_number 54 = .ok (.invokestatic 132, 3) := by decide +kernel
theorem dX7_number_57 : decode cX7_number 57 = .ok (.ifCond .eq 48, 3) := by decide +kernel
theorem dX7_number_60 : decode cX7_number 60 = .ok (.iload 4, 2) := by decide +kernel
theorem dX7_number_62 : decode cX7_number 62 = .ok (.sipush 10000, 3) := by decide +kernel
theorem dX7_number_65 : decode cX7_number 65 = .ok (.if_icmp .le 8, 3) := by decide +kernel
theorem dX7_number_68 : decode cX7_number 68 = .ok (.iload 4, 2) := by decide +kernel
theorem dX7_number_70 : decode cX7_number 70 = .ok (.goto 20, 3) := by decide +kernel
theorem dX7_number_73 : decode cX7_number 73 = .ok (.bipush 10, 2) := by decide +kernel
theorem dX7_number_75 : decode cX7_number 75 = .ok (.iload 4, 2) := by decide +kernel
theorem dX7_number_77 : decode cX7_number 77 = .ok (.imul, 1) := by decide +kernel
theorem dX7_number_78 : decode cX7_number 78 = .ok (.aload_n 0, 1) := by decide +kernel
theorem dX7_number_79 : decode cX7_number 79 = .ok (.aload_n 0, 1) := by decide +kernel
theorem dX7_number_80 : decode cX7_number 80 = .ok (.getfield 88, 3) := by decide +kernel
theorem dX7_number_83 : decode cX7_number 83 = .ok (.invokevirtual 91, 3) := by decide +kernel
theorem dX7_number_86 : decode cX7_number 86 = .ok (.iadd, 1) := by decide +kernel
theorem dX7_number_87 : decode cX7_number 87 = .ok (.bipush 48, 2) := by decide +kernel
theorem dX7_number_89 : decode cX7_number 89 = .ok (.isub, 1) := by decide +kernel
theorem dX7_number_90 : decode cX7_number 90 = .ok (.istore 4, 2) := by decide +kernel
theorem dX7_number_92 : decode cX7_number 92 = .ok (.aload_n 0, 1) := by decide +kernel
theorem dX7_number_93 : decode cX7_number 93 = .ok (.dup, 1) := by decide +kernel
theorem dX7_number_94 : decode cX7_number 94 = .ok (.getfield 88, 3) := by decide +kernel
theorem dX7_number_97 : decode cX7_number 97 = .ok (.iconst 1, 1) := by decide +kernel
theorem dX7_number_98 : decode cX7_number 98 = .ok (.iadd, 1) := by decide +kernel
theorem dX7_number_99 : decode cX7_number 99 = .ok (.putfield 88, 3) := by decide +kernel
theorem dX7_number_102 : decode cX7_number 102 = .ok (.goto (-56), 3) := by decide +kernel
theorem dX7_number_105 : decode cX7_number 105 = .ok (.iload 4, 2) := by decide +kernel
theorem dX7_number_107 : decode cX7_number 107 = .ok (.iload_n 1, 1) := by decide +kernel
theorem dX7_number_108 : decode cX7_number 108 = .ok (.if_icmp .lt 9, 3) := by decide +kernel
theorem dX7_number_111 : decode cX7_number 111 = .ok (.iload 4, 2) := by decide +kernel
theorem dX7_number_113 : decode cX7_number 113 = .ok (.iload_n 2, 1) := by decide +kernel
theorem dX7_number_114 : decode cX7_number 114 = .ok (.if_icmp .le 9, 3) := by decide +kernel
theorem dX7_number_117 : decode cX7_number 117 = .ok (.aload_n 0, 1) := by decide +kernel
theorem dX7_number_118 : decode cX7_number 118 = .ok (.iconst 2, 1) := by decide +kernel
theorem dX7_number_119 : decode cX7_number 119 = .ok (.iload_n 3, 1) := by decide +kernel
theorem dX7_number_120 : decode cX7_number 120 = .ok (.invokevirtual 136, 3) := by decide +kernel
theorem dX7_number_123 : decode cX7_number 123 = .ok (.iload 4, 2) := by decide +kernel
theorem dX7_number_125 : decode cX7_number 125 = .ok (.ireturn, 1) := by decide +kernel
theorem dX7_sign_0 : decode cX7_sign 0 = .ok (.aload_n 0, 1) := by decide +kernel
theorem dX7_sign_1 : decode cX7_sign 1 = .ok (.getfield 95, 3) := by decide +kernel
theorem dX7_sign_4 : decode cX7_sign 4 = .ok (.ifCond .le 4, 3) := by decide +kernel
theorem dX7_sign_7 : decode cX7_sign 7 = .ok (.return_, 1) := by decide +kernel
theorem dX7_sign_8 : decode cX7_sign 8 = .ok (.aload_n 0, 1) := by decide +kernel
theorem dX7_sign_9 : decode cX7_sign 9 = .ok (.invokevirtual 98, 3) := by decide +kernel
theorem dX7_sign_12 : decode cX7_sign 12 = .ok (.aload_n 0, 1) := by decide +kernel
theorem dX7_sign_13 : decode cX7_sign 13 = .ok (.getfield 88, 3) := by decide +kernel
theorem dX7_sign_16 : decode cX7_sign 16 = .ok (.aload_n 0, 1) := by decide +kernel
theorem dX7_sign_17 : decode cX7_sign 17 = .ok (.getfield 85, 3) := by decide +kernel
theorem dX7_sign_20 : decode cX7_sign 20 = .ok (.if_icmp .ge 28, 3) := by decide +kernel
theorem dX7_sign_23 : decode cX7_sign 23 = .ok (.aload_n 0, 1) := by decide +kernel
theorem dX7_sign_24 : decode cX7_sign 24 = .ok (.aload_n 0, 1) := by decide +kernel
theorem dX7_sign_25 : decode cX7_sign 25 = .ok (.getfield 88, 3) := by decide +kernel
theorem dX7_sign_28 : decode cX7_sign 28 = .ok (.invokevirtual 91, 3) := by decide +kernel
theorem dX7_sign_31 : decode cX7_sign 31 = .ok (.iload_n 1, 1) := by decide +kernel
theorem dX7_sign_32 : decode cX7_sign 32 = .ok (.if_icmp .ne 16, 3) := by decide +kernel
theorem dX7_sign_35 : decode cX7_sign 35 = .ok (.aload_n 0, 1) := by decide +kernel
theorem dX7_sign_36 : decode cX7_sign 36 = .ok (.dup, 1) := by decide +kernel
theorem dX7_sign_37 : decode cX7_sign 37 = .ok (.getfield 88, 3) := by decide +kernel
theorem dX7_sign_40 : decode cX7_sign 40 = .ok (.iconst 1, 1) := by decide +kernel
theorem dX7_sign_41 : decode cX7_sign 41 = .ok (.iadd, 1) := by decide +kernel
theorem dX7_sign_42 : decode cX7_sign 42 = .ok (.putfield 88, 3) := by decide +kernel
theorem dX7_sign_45 : decode cX7_sign 45 = .ok (.goto 12, 3) := by decide +kernel
theorem dX7_sign_48 : decode cX7_sign 48 = .ok (.aload_n 0, 1) := by decide +kernel
theorem dX7_sign_49 : decode cX7_sign 49 = .ok (.iconst 1, 1) := by decide +kernel
theorem dX7_sign_50 : decode cX7_sign 50 = .ok (.aload_n 0, 1) := by decide +kernel
theorem dX7_sign_51 : decode cX7_sign 51 = .ok (.getfield 88, 3) := by decide +kernel
theorem dX7_sign_54 : decode cX7_sign 54 = .ok (.invokevirtual 136, 3) := by decide +kernel
theorem dX7_sign_57 : decode cX7_sign 57 = .ok (.return_, 1) := by decide +kernel
theorem dX7_clause_0 : decode cX7_clause 0 = .ok (.aload_n 0, 1) := by decide +kernel
theorem dX7_clause_1 : decode cX7_clause 1 = .ok (.iconst 0, 1) := by decide +kernel
theorem dX7_clause_2 : decode cX7_clause 2 = .ok (.iconst 5, 1) := by decide +kernel
theorem dX7_clause_3 : decode cX7_clause 3 = .ok (.invokevirtual 140, 3) := by decide +kernel
theorem dX7_clause_6 : decode cX7_clause 6 = .ok (.istore_n 1, 1) := by decide +kernel
theorem dX7_clause_7 : decode cX7_clause 7 = .ok (.iload_n 1, 1) := by decide +kernel
theorem dX7_clause_8 : decode cX7_clause 8 = .ok (.ifCond .lt 12, 3) := by decide +kernel
theorem dX7_clause_11 : decode cX7_clause 11 = .ok (.aload_n 0, 1) := by decide +kernel
theorem dX7_clause_12 : decode cX7_clause 12 = .ok (.getfield 45, 3) := by decide +kernel
theorem dX7_clause_15 : decode cX7_clause 15 = .ok (.iload_n 1, 1) := by decide +kernel
theorem dX7_clause_16 : decode cX7_clause 16 = .ok (.baload, 1) := by decide +kernel
theorem dX7_clause_17 : decode cX7_clause 17 = .ok (.ifCond .eq 13, 3) := by decide +kernel
theorem dX7_clause_20 : decode cX7_clause 20 = .ok (.aload_n 0, 1) := by decide +kernel
theorem dX7_clause_21 : decode cX7_clause 21 = .ok (.iconst 1, 1) := by decide +kernel
theorem dX7_clause_22 : decode cX7_clause 22 = .ok (.aload_n 0, 1) := by decide +kernel
theorem dX7_clause_23 : decode cX7_clause 23 = .ok (.getfield 88, 3) := by decide +kernel
theorem dX7_clause_26 : decode cX7_clause 26 = .ok (.invokevirtual 136, 3) := by decide +kernel
theorem dX7_clause_29 : decode cX7_clause 29 = .ok (.return_, 1) := by decide +kernel
theorem dX7_clause_30 : decode cX7_clause 30 = .ok (.aload_n 0, 1) := by decide +kernel
theorem dX7_clause_31 : decode cX7_clause 31 = .ok (.getfield 45, 3) := by decide +kernel
theorem dX7_clause_34 : decode cX7_clause 34 = .ok (.iload_n 1, 1) := by decide +kernel
theorem dX7_clause_35 : decode cX7_clause 35 = .ok (.iconst 1, 1) := by decide +kernel
theorem dX7_clause_36 : decode cX7_clause 36 = .ok (.bastore, 1) := by decide +kernel
theorem dX7_clause_37 : decode cX7_clause 37 = .ok (.aload_n 0, 1) := by decide +kernel
theorem dX7_clause_38 : decode cX7_clause 38 = .ok (.dup, 1) := by decide +kernel
theorem dX7_clause_39 : decode cX7_clause 39 = .ok (.getfield 88, 3) := by decide +kernel
theorem dX7_clause_42 : decode cX7_clause 42 = .ok (.iload_n 1, 1) := by decide +kernel
theorem dX7_clause_43 : decode cX7_clause 43 = .ok (.invokestatic 124, 3) := by decide +kernel
theorem dX7_clause_46 : decode cX7_clause 46 = .ok (.invokevirtual 101, 3) := by decide +kernel
theorem dX7_clause_49 : decode cX7_clause 49 = .ok (.iadd, 1) := by decide +kernel
theorem dX7_clause_50 : decode cX7_clause 50 = .ok (.putfield 88, 3) := by decide +kernel
theorem dX7_clause_53 : decode cX7_clause 53 = .ok (.iload_n 1, 1) := by decide +kernel
theorem dX7_clause_54 : decode cX7_clause 54 = .ok (.ifCond .ne 52, 3) := by decide +kernel
theorem dX7_clause_57 : decode cX7_clause 57 = .ok (.aload_n 0, 1) := by decide +kernel
theorem dX7_clause_58 : decode cX7_clause 58 = .ok (.getfield 17, 3) := by decide +kernel
theorem dX7_clause_61 : decode cX7_clause 61 = .ok (.aload_n 0, 1) := by decide +kernel
theorem dX7_clause_62 : decode cX7_clause 62 = .ok (.getfield 144, 3) := by decide +kernel
theorem dX7_clause_65 : decode cX7_clause 65 = .ok (.aload_n 0, 1) := by decide +kernel
theorem dX7_clause_66 : decode cX7_clause 66 = .ok (.iconst 1, 1) := by decide +kernel
theorem dX7_clause_67 : decode cX7_clause 67 = .ok (.bipush 40, 2) := by decide +kernel
theorem dX7_clause_69 : decode cX7_clause 69 = .ok (.invokevirtual 147, 3) := by decide +kernel
theorem dX7_clause_72 : decode cX7_clause 72 = .ok (.iastore, 1) := by decide +kernel
theorem dX7_clause_73 : decode cX7_clause 73 = .ok (.aload_n 0, 1) := by decide +kernel
theorem dX7_clause_74 : decode cX7_clause 74 = .ok (.bipush 45, 2) := by decide +kernel
theorem dX7_clause_76 : decode cX7_clause 76 = .ok (.invokevirtual 150, 3) := by decide +kernel
theorem dX7_clause_79 : decode cX7_clause 79 = .ok (.aload_n 0, 1) := by decide +kernel
theorem dX7_clause_80 : decode cX7_clause 80 = .ok (.getfield 21, 3) := by decide +kernel
theorem dX7_clause_83 : decode cX7_clause 83 = .ok (.aload_n 0, 1) := by decide +kernel
theorem dX7_clause_84 : decode cX7_clause 84 = .ok (.getfield 144, 3) := by decide +kernel
theorem dX7_clause_87 : decode cX7_clause 87 = .ok (.aload_n 0, 1) := by decide +kernel
theorem dX7_clause_88 : decode cX7_clause 88 = .ok (.aload_n 0, 1) := by decide +kernel
theorem dX7_clause_89 : decode cX7_clause 89 = .ok (.getfield 17, 3) := by decide +kernel
theorem dX7_clause_92 : decode cX7_clause 92 = .ok (.aload_n 0, 1) := by decide +kernel
theorem dX7_clause_93 : decode cX7_clause 93 = .ok (.getfield 144, 3) := by decide +kernel
theorem dX7_clause_96 : decode cX7_clause 96 = .ok (.iaload, 1) := by decide +kernel
theorem dX7_clause_97 : decode cX7_clause 97 = .ok (.bipush 40, 2) := by decide +kernel
theorem dX7_clause_99 : decode cX7_clause 99 = .ok (.invokevirtual 147, 3) := by decide +kernel
theorem dX7_clause_102 : decode cX7_clause 102 = .ok (.iastore, 1) := by decide +kernel
theorem dX7_clause_103 : decode cX7_clause 103 = .ok (.goto 183, 3) := by decide +kernel
theorem dX7_clause_106 : decode cX7_clause 106 = .ok (.iload_n 1, 1) := by decide +kernel
theorem dX7_clause_107 : decode cX7_clause 107 = .ok (.iconst 1, 1) := by decide +kernel
theorem dX7_clause_108 : decode cX7_clause 108 = .ok (.if_icmp .ne 56, 3) := by decide +kernel
theorem dX7_clause_111 : decode cX7_clause 111 = .ok (.aload_n 0, 1) := by decide +kernel
theorem dX7_clause_112 : decode cX7_clause 112 = .ok (.iconst 5, 1) := by decide +kernel
theorem dX7_clause_113 : decode cX7_clause 113 = .ok (.bipush 8, 2) := by decide +kernel
theorem dX7_clause_115 : decode cX7_clause 115 = .ok (.invokevirtual 140, 3) := by decide +kernel
theorem dX7_clause_118 : decode cX7_clause 118 = .ok (.istore_n 2, 1) := by decide +kernel
theorem dX7_clause_119 : decode cX7_clause 119 = .ok (.iload_n 2, 1) := by decide +kernel
theorem dX7_clause_120 : decode cX7_clause 120 = .ok (.ifCond .ge 13, 3) := by decide +kernel
theorem dX7_clause_123 : decode cX7_clause 123 = .ok (.aload_n 0, 1) := by decide +kernel
theorem dX7_clause_124 : decode cX7_clause 124 = .ok (.iconst 1, 1) := by decide +kernel
theorem dX7_clause_125 : decode cX7_clause 125 = .ok (.aload_n 0, 1) := by decide +kernel
theorem dX7_clause_126 : decode cX7_clause 126 = .ok (.getfield 88, 3) := by decide +kernel
theorem dX7_clause_129 : decode cX7_clause 129 = .ok (.invokevirtual 136, 3) := by decide +kernel
theorem dX7_clause_132 : decode cX7_clause 132 = .ok (.return_, 1) := by decide +kernel
theorem dX7_clause_133 : decode cX7_clause 133 = .ok (.aload_n 0, 1) := by decide +kernel
theorem dX7_clause_134 : decode cX7_clause 134 = .ok (.dup, 1) := by decide +kernel
theorem dX7_clause_135 : decode cX7_clause 135 = .ok (.getfield 88, 3) := by decide +kernel
theorem dX7_clause_138 : decode cX7_clause 138 = .ok (.iload_n 2, 1) := by decide +kernel
theorem dX7_clause_139 : decode cX7_clause 139 = .ok (.invokestatic 124, 3) := by decide +kernel
theorem dX7_clause_142 : decode cX7_clause 142 = .ok (.invokevirtual 101, 3) := by decide +kernel
theorem dX7_clause_145 : decode cX7_clause 145 = .ok (.iadd, 1) := by decide +kernel
theorem dX7_clause_146 : decode cX7_clause 146 = .ok (.putfield 88, 3) := by decide +kernel
theorem dX7_clause_149 : decode cX7_clause 149 = .ok (.aload_n 0, 1) := by decide +kernel
theorem dX7_clause_150 : decode cX7_clause 150 = .ok (.getfield 24, 3) := by decide +kernel
theorem dX7_clause_153 : decode cX7_clause 153 = .ok (.aload_n 0, 1) := by decide +kernel
theorem dX7_clause_154 : decode cX7_clause 154 = .ok (.getfield 144, 3) := by decide +kernel
theorem dX7_clause_157 : decode cX7_clause 157 = .ok (.iload_n 2, 1) := by decide +kernel
theorem dX7_clause_158 : decode cX7_clause 158 = .ok (.iconst 4, 1) := by decide +kernel
theorem dX7_clause_159 : decode cX7_clause 159 = .ok (.isub, 1) := by decide +kernel
theorem dX7_clause_160 : decode cX7_clause 160 = .ok (.iastore, 1) := by decide +kernel
theorem dX7_clause_161 : decode cX7_clause 161 = .ok (.goto 125, 3) := by decide +kernel
theorem dX7_clause_164 : decode cX7_clause 164 = .ok (.iload_n 1, 1) := by decide +kernel
theorem dX7_clause_165 : decode cX7_clause 165 = .ok (.iconst 2, 1) := by decide +kernel
theorem dX7_clause_166 : decode cX7_clause 166 = .ok (.if_icmp .ne 22, 3) := by decide +kernel
theorem dX7_clause_169 : decode cX7_clause 169 = .ok (.aload_n 0, 1) := by decide +kernel
theorem dX7_clause_170 : decode cX7_clause 170 = .ok (.getfield 27, 3) := by decide +kernel
theorem dX7_clause_173 : decode cX7_clause 173 = .ok (.aload_n 0, 1) := by decide +kernel
theorem dX7_clause_174 : decode cX7_clause 174 = .ok (.getfield 144, 3) := by decide +kernel
theorem dX7_clause_177 : decode cX7_clause 177 = .ok (.aload_n 0, 1) := by decide +kernel
theorem dX7_clause_178 : decode cX7_clause 178 = .ok (.iconst 0, 1) := by decide +kernel
theorem dX7_clause_179 : decode cX7_clause 179 = .ok (.bipush 30, 2) := by decide +kernel
theorem dX7_clause_181 : decode cX7_clause 181 = .ok (.invokevirtual 147, 3) := by decide +kernel
theorem dX7_clause_184 : decode cX7_clause 184 = .ok (.iastore, 1) := by decide +kernel
theorem dX7_clause_185 : decode cX7_clause 185 = .ok (.goto 101, 3) := by decide +kernel
theorem dX7_clause_188 : decode cX7_clause 188 = .ok (.iload_n 1, 1) := by decide +kernel
theorem dX7_clause_189 : decode cX7_clause 189 = .ok (.iconst 3, 1) := by decide +kernel
theorem dX7_clause_190 : decode cX7_clause 190 = .ok (.if_icmp .ne 22, 3) := by decide +kernel
theorem dX7_clause_193 : decode cX7_clause 193 = .ok (.aload_n 0, 1) := by decide +kernel
theorem dX7_clause_194 : decode cX7_clause 194 = .ok (.getfield 30, 3) := by decide +kernel
theorem dX7_clause_197 : decode cX7_clause 197 = .ok (.aload_n 0, 1) := by decide +kernel
theorem dX7_clause_198 : decode cX7_clause 198 = .ok (.getfield 144, 3) := by decide +kernel
theorem dX7_clause_201 : decode cX7_clause 201 = .ok (.aload_n 0, 1) := by decide +kernel
theorem dX7_clause_202 : decode cX7_clause 202 = .ok (.iconst 0, 1) := by decide +kernel
theorem dX7_clause_203 : decode cX7_clause 203 = .ok (.bipush 40, 2) := by decide +kernel
theorem dX7_clause_205 : decode cX7_clause 205 = .ok (.invokevirtual 147, 3) := by decide +kernel
theorem dX7_clause_208 : decode cX7_clause 208 = .ok (.iastore, 1) := by decide +kernel
theorem dX7_clause_209 : decode cX7_clause 209 = .ok (.goto 77, 3) := by decide +kernel
theorem dX7_clause_212 : decode cX7_clause 212 = .ok (.iconst 1, 1) := by decide +kernel
theorem dX7_clause_213 : decode cX7_clause 213 = .ok (.istore_n 2, 1) := by decide +kernel
theorem dX7_clause_214 : decode cX7_clause 214 = .ok (.iload_n 2, 1) := by decide +kernel
theorem dX7_clause_215 : decode cX7_clause 215 = .ok (.ifCond .eq 71, 3) := by decide +kernel
theorem dX7_clause_218 : decode cX7_clause 218 = .ok (.aload_n 0, 1) := by decide +kernel
theorem dX7_clause_219 : decode cX7_clause 219 = .ok (.iconst 0, 1) := by decide +kernel
theorem dX7_clause_220 : decode cX7_clause 220 = .ok (.aload_n 0, 1) := by decide +kernel
theorem dX7_clause_221 : decode cX7_clause 221 = .ok (.getfield 144, 3) := by decide +kernel
theorem dX7_clause_224 : decode cX7_clause 224 = .ok (.iconst 1, 1) := by decide +kernel
theorem dX7_clause_225 : decode cX7_clause 225 = .ok (.isub, 1) := by decide +kernel
theorem dX7_clause_226 : decode cX7_clause 226 = .ok (.invokevirtual 147, 3) := by decide +kernel
theorem dX7_clause_229 : decode cX7_clause 229 = .ok (.istore_n 3, 1) := by decide +kernel
theorem dX7_clause_230 : decode cX7_clause 230 = .ok (.aload_n 0, 1) := by decide +kernel
theorem dX7_clause_231 : decode cX7_clause 231 = .ok (.getfield 95, 3) := by decide +kernel
theorem dX7_clause_234 : decode cX7_clause 234 = .ok (.ifCond .ne 18, 3) := by decide +kernel
theorem dX7_clause_237 : decode cX7_clause 237 = .ok (.aload_n 0, 1) := by decide +kernel
theorem dX7_clause_238 : decode cX7_clause 238 = .ok (.getfield 33, 3) := by decide +kernel
theorem dX7_clause_241 : decode cX7_clause 241 = .ok (.aload_n 0, 1) := by decide +kernel
theorem dX7_clause_242 : decode cX7_clause 242 = .ok (.getfield 144, 3) := by decide +kernel
theorem dX7_clause_245 : decode cX7_clause 245 = .ok (.dup2, 1) := by decide +kernel
theorem dX7_clause_246 : decode cX7_clause 246 = .ok (.iaload, 1) := by decide +kernel
theorem dX7_clause_247 : decode cX7_clause 247 = .ok (.iconst 1, 1) := by decide +kernel
theorem dX7_clause_248 : decode cX7_clause 248 = .ok (.iload_n 3, 1) := by decide +kernel
theorem dX7_clause_249 : decode cX7_clause 249 = .ok (.ishl, 1) := by decide +kernel
theorem dX7_clause_250 : decode cX7_clause 250 = .ok (.ior, 1) := by decide +kernel
theorem dX7_clause_251 : decode cX7_clause 251 = .ok (.iastore, 1) := by decide +kernel
theorem dX7_clause_252 : decode cX7_clause 252 = .ok (.aload_n 0, 1) := by decide +kernel
theorem dX7_clause_253 : decode cX7_clause 253 = .ok (.invokevirtual 98, 3) := by decide +kernel
theorem dX7_clause_256 : decode cX7_clause 256 = .ok (.aload_n 0, 1) := by decide +kernel
theorem dX7_clause_257 : decode cX7_clause 257 = .ok (.getfield 95, 3) := by decide +kernel
theorem dX7_clause_260 : decode cX7_clause 260 = .ok (.ifCond .ne 21, 3) := by decide +kernel
theorem dX7_clause_263 : decode cX7_clause 263 = .ok (.aload_n 0, 1) := by decide +kernel
theorem dX7_clause_264 : decode cX7_clause 264 = .ok (.aload_n 0, 1) := by decide +kernel
theorem dX7_clause_265 : decode cX7_clause 265 = .ok (.getfield 88, 3) := by decide +kernel
theorem dX7_clause_268 : decode cX7_clause 268 = .ok (.invokevirtual 91, 3) := by decide +kernel
theorem dX7_clause_271 : decode cX7_clause 271 = .ok (.invokestatic 132, 3) := by decide +kernel
theorem dX7_clause_274 : decode cX7_clause 274 = .ok (.ifCond .eq 7, 3) := by decide +kernel
theorem dX7_clause_277 : decode cX7_clause 277 = .ok (.iconst 1, 1) := by decide +kernel
theorem dX7_clause_278 : decode cX7_clause 278 = .ok (.goto 4, 3) := by decide +kernel
theorem dX7_clause_281 : decode cX7_clause 281 = .ok (.iconst 0, 1) := by decide +kernel
theorem dX7_clause_282 : decode cX7_clause 282 = .ok (.istore_n 2, 1) := by decide +kernel
theorem dX7_clause_283 : decode cX7_clause 283 = .ok (.goto (-69), 3) := by decide +kernel
theorem dX7_clause_286 : decode cX7_clause 286 = .ok (.aload_n 0, 1) := by decide +kernel
theorem dX7_clause_287 : decode cX7_clause 287 = .ok (.bipush 59, 2) := by decide +kernel
theorem dX7_clause_289 : decode cX7_clause 289 = .ok (.invokevirtual 150, 3) := by decide +kernel
theorem dX7_clause_292 : decode cX7_clause 292 = .ok (.return_, 1) := by decide +kernel
theorem dX7_work_0 : decode cX7_work 0 = .ok (.aload_n 0, 1) := by decide +kernel
theorem dX7_work_1 : decode cX7_work 1 = .ok (.iconst 0, 1) := by decide +kernel
theorem dX7_work_2 : decode cX7_work 2 = .ok (.putfield 79, 3) := by decide +kernel
theorem dX7_work_5 : decode cX7_work 5 = .ok (.aload_n 0, 1) := by decide +kernel
theorem dX7_work_6 : decode cX7_work 6 = .ok (.iload_n 1, 1) := by decide +kernel
theorem dX7_work_7 : decode cX7_work 7 = .ok (.ifCond .lt 11, 3) := by decide +kernel
theorem dX7_work_10 : decode cX7_work 10 = .ok (.iload_n 1, 1) := by decide +kernel
theorem dX7_work_11 : decode cX7_work 11 = .ok (.aload_n 0, 1) := by decide +kernel
theorem dX7_work_12 : decode cX7_work 12 = .ok (.getfield 82, 3) := by decide +kernel
theorem dX7_work_15 : decode cX7_work 15 = .ok (.if_icmp .le 7, 3) := by decide +kernel
theorem dX7_work_18 : decode cX7_work 18 = .ok (.iconst 1, 1) := by decide +kernel
theorem dX7_work_19 : decode cX7_work 19 = .ok (.goto 4, 3) := by decide +kernel
theorem dX7_work_22 : decode cX7_work 22 = .ok (.iconst 0, 1) := by decide +kernel
theorem dX7_work_23 : decode cX7_work 23 = .ok (.iconst 1, 1) := by decide +kernel
theorem dX7_work_24 : decode cX7_work 24 = .ok (.invokevirtual 154, 3) := by decide +kernel
theorem dX7_work_27 : decode cX7_work 27 = .ok (.ifCond .ne 25, 3) := by decide +kernel
theorem dX7_work_30 : decode cX7_work 30 = .ok (.aload_n 0, 1) := by decide +kernel
theorem dX7_work_31 : decode cX7_work 31 = .ok (.aload_n 0, 1) := by decide +kernel
theorem dX7_work_32 : decode cX7_work 32 = .ok (.getfield 144, 3) := by decide +kernel
theorem dX7_work_35 : decode cX7_work 35 = .ok (.bipush 16, 2) := by decide +kernel
theorem dX7_work_37 : decode cX7_work 37 = .ok (.if_icmp .ne 7, 3) := by decide +kernel
theorem dX7_work_40 : decode cX7_work 40 = .ok (.iconst 1, 1) := by decide +kernel
theorem dX7_work_41 : decode cX7_work 41 = .ok (.goto 4, 3) := by decide +kernel
theorem dX7_work_44 : decode cX7_work 44 = .ok (.iconst 0, 1) := by decide +kernel
theorem dX7_work_45 : decode cX7_work 45 = .ok (.iconst 2, 1) := by decide +kernel
theorem dX7_work_46 : decode cX7_work 46 = .ok (.invokevirtual 154, 3) := by decide +kernel
theorem dX7_work_49 : decode cX7_work 49 = .ok (.ifCond .eq 5, 3) := by decide +kernel
theorem dX7_work_52 : decode cX7_work 52 = .ok (.iconst 0, 1) := by decide +kernel
theorem dX7_work_53 : decode cX7_work 53 = .ok (.ireturn, 1) := by decide +kernel
theorem dX7_work_54 : decode cX7_work 54 = .ok (.aload_n 0, 1) := by decide +kernel
theorem dX7_work_55 : decode cX7_work 55 = .ok (.iload_n 1, 1) := by decide +kernel
theorem dX7_work_56 : decode cX7_work 56 = .ok (.putfield 85, 3) := by decide +kernel
theorem dX7_work_59 : decode cX7_work 59 = .ok (.aload_n 0, 1) := by decide +kernel
theorem dX7_work_60 : decode cX7_work 60 = .ok (.iconst 0, 1) := by decide +kernel
theorem dX7_work_61 : decode cX7_work 61 = .ok (.putfield 82, 3) := by decide +kernel
theorem dX7_work_64 : decode cX7_work 64 = .ok (.aload_n 0, 1) := by decide +kernel
theorem dX7_work_65 : decode cX7_work 65 = .ok (.iconst 0, 1) := by decide +kernel
theorem dX7_work_66 : decode cX7_work 66 = .ok (.putfield 88, 3) := by decide +kernel
theorem dX7_work_69 : decode cX7_work 69 = .ok (.aload_n 0, 1) := by decide +kernel
theorem dX7_work_70 : decode cX7_work 70 = .ok (.iconst 0, 1) := by decide +kernel
theorem dX7_work_71 : decode cX7_work 71 = .ok (.putfield 95, 3) := by decide +kernel
theorem dX7_work_74 : decode cX7_work 74 = .ok (.aload_n 0, 1) := by decide +kernel
theorem dX7_work_75 : decode cX7_work 75 = .ok (.iconst (-1), 1) := by decide +kernel
theorem dX7_work_76 : decode cX7_work 76 = .ok (.putfield 13, 3) := by decide +kernel
theorem dX7_work_79 : decode cX7_work 79 = .ok (.iconst 0, 1) := by decide +kernel
theorem dX7_work_80 : decode cX7_work 80 = .ok (.istore_n 2, 1) := by decide +kernel
theorem dX7_work_81 : decode cX7_work 81 = .ok (.iload_n 2, 1) := by decide +kernel
theorem dX7_work_82 : decode cX7_work 82 = .ok (.iconst 5, 1) := by decide +kernel
theorem dX7_work_83 : decode cX7_work 83 = .ok (.if_icmp .ge 16, 3) := by decide +kernel
theorem dX7_work_86 : decode cX7_work 86 = .ok (.aload_n 0, 1) := by decide +kernel
theorem dX7_work_87 : decode cX7_work 87 = .ok (.getfield 45, 3) := by decide +kernel
theorem dX7_work_90 : decode cX7_work 90 = .ok (.iload_n 2, 1) := by decide +kernel
theorem dX7_work_91 : decode cX7_work 91 = .ok (.iconst 0, 1) := by decide +kernel
theorem dX7_work_92 : decode cX7_work 92 = .ok (.bastore, 1) := by decide +kernel
theorem dX7_work_93 : decode cX7_work 93 = .ok (.iinc 2 1, 3) := by decide +kernel
theorem dX7_work_96 : decode cX7_work 96 = .ok (.goto (-15), 3) := by decide +kernel
theorem dX7_work_99 : decode cX7_work 99 = .ok (.aload_n 0, 1) := by decide +kernel
theorem dX7_work_100 : decode cX7_work 100 = .ok (.getfield 24, 3) := by decide +kernel
theorem dX7_work_103 : decode cX7_work 103 = .ok (.aload_n 0, 1) := by decide +kernel
theorem dX7_work_104 : decode cX7_work 104 = .ok (.getfield 144, 3) := by decide +kernel
theorem dX7_work_107 : decode cX7_work 107 = .ok (.iconst 0, 1) := by decide +kernel
theorem dX7_work_108 : decode cX7_work 108 = .ok (.iastore, 1) := by decide +kernel
theorem dX7_work_109 : decode cX7_work 109 = .ok (.aload_n 0, 1) := by decide +kernel
theorem dX7_work_110 : decode cX7_work 110 = .ok (.getfield 27, 3) := by decide +kernel
theorem dX7_work_113 : decode cX7_work 113 = .ok (.aload_n 0, 1) := by decide +kernel
theorem dX7_work_114 : decode cX7_work 114 = .ok (.getfield 144, 3) := by decide +kernel
theorem dX7_work_117 : decode cX7_work 117 = .ok (.iconst 0, 1) := by decide +kernel
theorem dX7_work_118 : decode cX7_work 118 = .ok (.iastore, 1) := by decide +kernel
theorem dX7_work_119 : decode cX7_work 119 = .ok (.aload_n 0, 1) := by decide +kernel
theorem dX7_work_120 : decode cX7_work 120 = .ok (.getfield 30, 3) := by decide +kernel
theorem dX7_work_123 : decode cX7_work 123 = .ok (.aload_n 0, 1) := by decide +kernel
theorem dX7_work_124 : decode cX7_work 124 = .ok (.getfield 144, 3) := by decide +kernel
theorem dX7_work_127 : decode cX7_work 127 = .ok (.iconst (-1), 1) := by decide +kernel
theorem dX7_work_128 : decode cX7_work 128 = .ok (.iastore, 1) := by decide +kernel
theorem dX7_work_129 : decode cX7_work 129 = .ok (.aload_n 0, 1) := by decide +kernel
theorem dX7_work_130 : decode cX7_work 130 = .ok (.getfield 33, 3) := by decide +kernel
theorem dX7_work_133 : decode cX7_work 133 = .ok (.aload_n 0, 1) := by decide +kernel
theorem dX7_work_134 : decode cX7_work 134 = .ok (.getfield 144, 3) := by decide +kernel
theorem dX7_work_137 : decode cX7_work 137 = .ok (.iconst 0, 1) := by decide +kernel
theorem dX7_work_138 : decode cX7_work 138 = .ok (.iastore, 1) := by decide +kernel
theorem dX7_work_139 : decode cX7_work 139 = .ok (.aload_n 0, 1) := by decide +kernel
theorem dX7_work_140 : decode cX7_work 140 = .ok (.invokevirtual 98, 3) := by decide +kernel
theorem dX7_work_143 : decode cX7_work 143 = .ok (.aload_n 0, 1) := by decide +kernel
theorem dX7_work_144 : decode cX7_work 144 = .ok (.getfield 95, 3) := by decide +kernel
theorem dX7_work_147 : decode cX7_work 147 = .ok (.ifCond .ne 25, 3) := by decide +kernel
theorem dX7_work_150 : decode cX7_work 150 = .ok (.aload_n 0, 1) := by decide +kernel
theorem dX7_work_151 : decode cX7_work 151 = .ok (.getfield 88, 3) := by decide +kernel
theorem dX7_work_154 : decode cX7_work 154 = .ok (.aload_n 0, 1) := by decide +kernel
theorem dX7_work_155 : decode cX7_work 155 = .ok (.getfield 85, 3) := by decide +kernel
theorem dX7_work_158 : decode cX7_work 158 = .ok (.if_icmp .ge 14, 3) := by decide +kernel
theorem dX7_work_161 : decode cX7_work 161 = .ok (.aload_n 0, 1) := by decide +kernel
theorem dX7_work_162 : decode cX7_work 162 = .ok (.invokevirtual 158, 3) := by decide +kernel
theorem dX7_work_165 : decode cX7_work 165 = .ok (.aload_n 0, 1) := by decide +kernel
theorem dX7_work_166 : decode cX7_work 166 = .ok (.invokevirtual 98, 3) := by decide +kernel
theorem dX7_work_169 : decode cX7_work 169 = .ok (.goto (-26), 3) := by decide +kernel
theorem dX7_work_172 : decode cX7_work 172 = .ok (.aload_n 0, 1) := by decide +kernel
theorem dX7_work_173 : decode cX7_work 173 = .ok (.getfield 45, 3) := by decide +kernel
theorem dX7_work_176 : decode cX7_work 176 = .ok (.iconst 0, 1) := by decide +kernel
theorem dX7_work_177 : decode cX7_work 177 = .ok (.baload, 1) := by decide +kernel
theorem dX7_work_178 : decode cX7_work 178 = .ok (.ifCond .ne 12, 3) := by decide +kernel
theorem dX7_work_181 : decode cX7_work 181 = .ok (.aload_n 0, 1) := by decide +kernel
theorem dX7_work_182 : decode cX7_work 182 = .ok (.iconst 3, 1) := by decide +kernel
theorem dX7_work_183 : decode cX7_work 183 = .ok (.aload_n 0, 1) := by decide +kernel
theorem dX7_work_184 : decode cX7_work 184 = .ok (.getfield 85, 3) := by decide +kernel
