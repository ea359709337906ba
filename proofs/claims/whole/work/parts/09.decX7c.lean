theorem dX7_isNext_76 : decode cX7_isNext 76 = .ok (.aload_n 0, 1) := by decide +kernel
theorem dX7_isNext_77 : decode cX7_isNext 77 = .ok (.iload_n 3, 1) := by decide +kernel
theorem dX7_isNext_78 : decode cX7_isNext 78 = .ok (.iload 4, 2) := by decide +kernel
theorem dX7_isNext_80 : decode cX7_isNext 80 = .ok (.invokevirtual 186, 3) := by decide +kernel
theorem dX7_isNext_83 : decode cX7_isNext 83 = .ok (.ifCond .eq 9, 3) := by decide +kernel
theorem dX7_isNext_86 : decode cX7_isNext 86 = .ok (.iinc 4 1, 3) := by decide +kernel
theorem dX7_isNext_89 : decode cX7_isNext 89 = .ok (.goto (-13), 3) := by decide +kernel
theorem dX7_isNext_92 : decode cX7_isNext 92 = .ok (.aload_n 0, 1) := by decide +kernel
theorem dX7_isNext_93 : decode cX7_isNext 93 = .ok (.getfield 36, 3) := by decide +kernel
theorem dX7_isNext_96 : decode cX7_isNext 96 = .ok (.iload_n 3, 1) := by decide +kernel
theorem dX7_isNext_97 : decode cX7_isNext 97 = .ok (.iload 4, 2) := by decide +kernel
theorem dX7_isNext_99 : decode cX7_isNext 99 = .ok (.iastore, 1) := by decide +kernel
theorem dX7_isNext_100 : decode cX7_isNext 100 = .ok (.iinc 3 1, 3) := by decide +kernel
theorem dX7_isNext_103 : decode cX7_isNext 103 = .ok (.goto (-38), 3) := by decide +kernel
theorem dX7_isNext_106 : decode cX7_isNext 106 = .ok (.iconst 1, 1) := by decide +kernel
theorem dX7_isNext_107 : decode cX7_isNext 107 = .ok (.ireturn, 1) := by decide +kernel
theorem dX7_isNext_108 : decode cX7_isNext 108 = .ok (.iinc 1 (-1), 3) := by decide +kernel
theorem dX7_isNext_111 : decode cX7_isNext 111 = .ok (.goto (-104), 3) := by decide +kernel
theorem dX7_isNext_114 : decode cX7_isNext 114 = .ok (.iconst 0, 1) := by decide +kernel
theorem dX7_isNext_115 : decode cX7_isNext 115 = .ok (.ireturn, 1) := by decide +kernel
theorem dX7_best_0 : decode cX7_best 0 = .ok (.aload_n 0, 1) := by decide +kernel
theorem dX7_best_1 : decode cX7_best 1 = .ok (.iconst 0, 1) := by decide +kernel
theorem dX7_best_2 : decode cX7_best 2 = .ok (.putfield 79, 3) := by decide +kernel
theorem dX7_best_5 : decode cX7_best 5 = .ok (.aload_n 0, 1) := by decide +kernel
theorem dX7_best_6 : decode cX7_best 6 = .ok (.getfield 144, 3) := by decide +kernel
theorem dX7_best_9 : decode cX7_best 9 = .ok (.bipush 7, 2) := by decide +kernel
theorem dX7_best_11 : decode cX7_best 11 = .ok (.if_icmp .gt 11, 3) := by decide +kernel
theorem dX7_best_14 : decode cX7_best 14 = .ok (.aload_n 0, 1) := by decide +kernel
theorem dX7_best_15 : decode cX7_best 15 = .ok (.iconst 1, 1) := by decide +kernel
theorem dX7_best_16 : decode cX7_best 16 = .ok (.invokevirtual 183, 3) := by decide +kernel
theorem dX7_best_19 : decode cX7_best 19 = .ok (.ifCond .ge 5, 3) := by decide +kernel
theorem dX7_best_22 : decode cX7_best 22 = .ok (.iconst (-1), 1) := by decide +kernel
theorem dX7_best_23 : decode cX7_best 23 = .ok (.ireturn, 1) := by decide +kernel
theorem dX7_best_24 : decode cX7_best 24 = .ok (.ldc 178, 2) := by decide +kernel
theorem dX7_best_26 : decode cX7_best 26 = .ok (.istore_n 1, 1) := by decide +kernel
theorem dX7_best_27 : decode cX7_best 27 = .ok (.ldc 178, 2) := by decide +kernel
theorem dX7_best_29 : decode cX7_best 29 = .ok (.istore_n 2, 1) := by decide +kernel
theorem dX7_best_30 : decode cX7_best 30 = .ok (.iconst 0, 1) := by decide +kernel
theorem dX7_best_31 : decode cX7_best 31 = .ok (.istore_n 3, 1) := by decide +kernel
theorem dX7_best_32 : decode cX7_best 32 = .ok (.iload_n 3, 1) := by decide +kernel
theorem dX7_best_33 : decode cX7_best 33 = .ok (.aload_n 0, 1) := by decide +kernel
theorem dX7_best_34 : decode cX7_best 34 = .ok (.getfield 144, 3) := by decide +kernel
theorem dX7_best_37 : decode cX7_best 37 = .ok (.if_icmp .ge 16, 3) := by decide +kernel
theorem dX7_best_40 : decode cX7_best 40 = .ok (.aload_n 0, 1) := by decide +kernel
theorem dX7_best_41 : decode cX7_best 41 = .ok (.getfield 36, 3) := by decide +kernel
theorem dX7_best_44 : decode cX7_best 44 = .ok (.iload_n 3, 1) := by decide +kernel
theorem dX7_best_45 : decode cX7_best 45 = .ok (.iload_n 3, 1) := by decide +kernel
theorem dX7_best_46 : decode cX7_best 46 = .ok (.iastore, 1) := by decide +kernel
theorem dX7_best_47 : decode cX7_best 47 = .ok (.iinc 3 1, 3) := by decide +kernel
theorem dX7_best_50 : decode cX7_best 50 = .ok (.goto (-18), 3) := by decide +kernel
theorem dX7_best_53 : decode cX7_best 53 = .ok (.iconst 1, 1) := by decide +kernel
theorem dX7_best_54 : decode cX7_best 54 = .ok (.istore_n 3, 1) := by decide +kernel
theorem dX7_best_55 : decode cX7_best 55 = .ok (.iload_n 3, 1) := by decide +kernel
theorem dX7_best_56 : decode cX7_best 56 = .ok (.ifCond .eq 92, 3) := by decide +kernel
theorem dX7_best_59 : decode cX7_best 59 = .ok (.aload_n 0, 1) := by decide +kernel
theorem dX7_best_60 : decode cX7_best 60 = .ok (.iconst 1, 1) := by decide +kernel
theorem dX7_best_61 : decode cX7_best 61 = .ok (.invokevirtual 183, 3) := by decide +kernel
theorem dX7_best_64 : decode cX7_best 64 = .ok (.istore 4, 2) := by decide +kernel
theorem dX7_best_66 : decode cX7_best 66 = .ok (.iload 4, 2) := by decide +kernel
theorem dX7_best_68 : decode cX7_best 68 = .ok (.iload_n 1, 1) := by decide +kernel
theorem dX7_best_69 : decode cX7_best 69 = .ok (.if_icmp .le 8, 3) := by decide +kernel
theorem dX7_best_72 : decode cX7_best 72 = .ok (.ldc 178, 2) := by decide +kernel
theorem dX7_best_74 : decode cX7_best 74 = .ok (.goto 8, 3) := by decide +kernel
theorem dX7_best_77 : decode cX7_best 77 = .ok (.aload_n 0, 1) := by decide +kernel
theorem dX7_best_78 : decode cX7_best 78 = .ok (.iconst 0, 1) := by decide +kernel
theorem dX7_best_79 : decode cX7_best 79 = .ok (.invokevirtual 183, 3) := by decide +kernel
theorem dX7_best_82 : decode cX7_best 82 = .ok (.istore 5, 2) := by decide +kernel
theorem dX7_best_84 : decode cX7_best 84 = .ok (.iload 4, 2) := by decide +kernel
theorem dX7_best_86 : decode cX7_best 86 = .ok (.iload_n 1, 1) := by decide +kernel
theorem dX7_best_87 : decode cX7_best 87 = .ok (.if_icmp .lt 15, 3) := by decide +kernel
theorem dX7_best_90 : decode cX7_best 90 = .ok (.iload 4, 2) := by decide +kernel
theorem dX7_best_92 : decode cX7_best 92 = .ok (.iload_n 1, 1) := by decide +kernel
theorem dX7_best_93 : decode cX7_best 93 = .ok (.if_icmp .ne 47, 3) := by decide +kernel
theorem dX7_best_96 : decode cX7_best 96 = .ok (.iload 5, 2) := by decide +kernel
theorem dX7_best_98 : decode cX7_best 98 = .ok (.iload_n 2, 1) := by decide +kernel
theorem dX7_best_99 : decode cX7_best 99 = .ok (.if_icmp .ge 41, 3) := by decide +kernel
theorem dX7_best_102 : decode cX7_best 102 = .ok (.iload 4, 2) := by decide +kernel
theorem dX7_best_104 : decode cX7_best 104 = .ok (.istore_n 1, 1) := by decide +kernel
theorem dX7_best_105 : decode cX7_best 105 = .ok (.iload 5, 2) := by decide +kernel
theorem dX7_best_107 : decode cX7_best 107 = .ok (.istore_n 2, 1) := by decide +kernel
theorem dX7_best_108 : decode cX7_best 108 = .ok (.iconst 0, 1) := by decide +kernel
theorem dX7_best_109 : decode cX7_best 109 = .ok (.istore 6, 2) := by decide +kernel
theorem dX7_best_111 : decode cX7_best 111 = .ok (.iload 6, 2) := by decide +kernel
theorem dX7_best_113 : decode cX7_best 113 = .ok (.aload_n 0, 1) := by decide +kernel
theorem dX7_best_114 : decode cX7_best 114 = .ok (.getfield 144, 3) := by decide +kernel
theorem dX7_best_117 : decode cX7_best 117 = .ok (.if_icmp .ge 23, 3) := by decide +kernel
theorem dX7_best_120 : decode cX7_best 120 = .ok (.aload_n 0, 1) := by decide +kernel
theorem dX7_best_121 : decode cX7_best 121 = .ok (.getfield 64, 3) := by decide +kernel
theorem dX7_best_124 : decode cX7_best 124 = .ok (.iload 6, 2) := by decide +kernel
theorem dX7_best_126 : decode cX7_best 126 = .ok (.aload_n 0, 1) := by decide +kernel
theorem dX7_best_127 : decode cX7_best 127 = .ok (.getfield 36, 3) := by decide +kernel
theorem dX7_best_130 : decode cX7_best 130 = .ok (.iload 6, 2) := by decide +kernel
theorem dX7_best_132 : decode cX7_best 132 = .ok (.iaload, 1) := by decide +kernel
theorem dX7_best_133 : decode cX7_best 133 = .ok (.iastore, 1) := by decide +kernel
theorem dX7_best_134 : decode cX7_best 134 = .ok (.iinc 6 1, 3) := by decide +kernel
theorem dX7_best_137 : decode cX7_best 137 = .ok (.goto (-26), 3) := by decide +kernel
theorem dX7_best_140 : decode cX7_best 140 = .ok (.aload_n 0, 1) := by decide +kernel
theorem dX7_best_141 : decode cX7_best 141 = .ok (.invokevirtual 189, 3) := by decide +kernel
theorem dX7_best_144 : decode cX7_best 144 = .ok (.istore_n 3, 1) := by decide +kernel
theorem dX7_best_145 : decode cX7_best 145 = .ok (.goto (-90), 3) := by decide +kernel
theorem dX7_best_148 : decode cX7_best 148 = .ok (.iconst 0, 1) := by decide +kernel
theorem dX7_best_149 : decode cX7_best 149 = .ok (.istore 4, 2) := by decide +kernel
theorem dX7_best_151 : decode cX7_best 151 = .ok (.iload 4, 2) := by decide +kernel
theorem dX7_best_153 : decode cX7_best 153 = .ok (.aload_n 0, 1) := by decide +kernel
theorem dX7_best_154 : decode cX7_best 154 = .ok (.getfield 144, 3) := by decide +kernel
theorem dX7_best_157 : decode cX7_best 157 = .ok (.if_icmp .ge 23, 3) := by decide +kernel
theorem dX7_best_160 : decode cX7_best 160 = .ok (.aload_n 0, 1) := by decide +kernel
theorem dX7_best_161 : decode cX7_best 161 = .ok (.getfield 36, 3) := by decide +kernel
theorem dX7_best_164 : decode cX7_best 164 = .ok (.iload 4, 2) := by decide +kernel
theorem dX7_best_166 : decode cX7_best 166 = .ok (.aload_n 0, 1) := by decide +kernel
theorem dX7_best_167 : decode cX7_best 167 = .ok (.getfield 64, 3) := by decide +kernel
theorem dX7_best_170 : decode cX7_best 170 = .ok (.iload 4, 2) := by decide +kernel
theorem dX7_best_172 : decode cX7_best 172 = .ok (.iaload, 1) := by decide +kernel
theorem dX7_best_173 : decode cX7_best 173 = .ok (.iastore, 1) := by decide +kernel
theorem dX7_best_174 : decode cX7_best 174 = .ok (.iinc 4 1, 3) := by decide +kernel
theorem dX7_best_177 : decode cX7_best 177 = .ok (.goto (-26), 3) := by decide +kernel
theorem dX7_best_180 : decode cX7_best 180 = .ok (.iload_n 1, 1) := by decide +kernel
theorem dX7_best_181 : decode cX7_best 181 = .ok (.ireturn, 1) := by decide +kernel
theorem dX7_order_0 : decode cX7_order 0 = .ok (.aload_n 0, 1) := by decide +kernel
theorem dX7_order_1 : decode cX7_order 1 = .ok (.iconst 0, 1) := by decide +kernel
theorem dX7_order_2 : decode cX7_order 2 = .ok (.putfield 79, 3) := by decide +kernel
theorem dX7_order_5 : decode cX7_order 5 = .ok (.iload_n 1, 1) := by decide +kernel
theorem dX7_order_6 : decode cX7_order 6 = .ok (.ifCond .lt 20, 3) := by decide +kernel
theorem dX7_order_9 : decode cX7_order 9 = .ok (.iload_n 1, 1) := by decide +kernel
theorem dX7_order_10 : decode cX7_order 10 = .ok (.aload_n 0, 1) := by decide +kernel
theorem dX7_order_11 : decode cX7_order 11 = .ok (.getfield 144, 3) := by decide +kernel
theorem dX7_order_14 : decode cX7_order 14 = .ok (.if_icmp .ge 12, 3) := by decide +kernel
theorem dX7_order_17 : decode cX7_order 17 = .ok (.aload_n 0, 1) := by decide +kernel
theorem dX7_order_18 : decode cX7_order 18 = .ok (.getfield 36, 3) := by decide +kernel
theorem dX7_order_21 : decode cX7_order 21 = .ok (.iload_n 1, 1) := by decide +kernel
theorem dX7_order_22 : decode cX7_order 22 = .ok (.iaload, 1) := by decide +kernel
theorem dX7_order_23 : decode cX7_order 23 = .ok (.goto 4, 3) := by decide +kernel
theorem dX7_order_26 : decode cX7_order 26 = .ok (.iconst (-1), 1) := by decide +kernel
theorem dX7_order_27 : decode cX7_order 27 = .ok (.ireturn, 1) := by decide +kernel
theorem dX7_move_0 : decode cX7_move 0 = .ok (.aload_n 0, 1) := by decide +kernel
theorem dX7_move_1 : decode cX7_move 1 = .ok (.iconst 0, 1) := by decide +kernel
theorem dX7_move_2 : decode cX7_move 2 = .ok (.putfield 79, 3) := by decide +kernel
theorem dX7_move_5 : decode cX7_move 5 = .ok (.aload_n 0, 1) := by decide +kernel
theorem dX7_move_6 : decode cX7_move 6 = .ok (.aload_n 0, 1) := by decide +kernel
theorem dX7_move_7 : decode cX7_move 7 = .ok (.iload_n 1, 1) := by decide +kernel
theorem dX7_move_8 : decode cX7_move 8 = .ok (.invokevirtual 164, 3) := by decide +kernel
theorem dX7_move_11 : decode cX7_move 11 = .ok (.ifCond .ne 7, 3) := by decide +kernel
theorem dX7_move_14 : decode cX7_move 14 = .ok (.iconst 1, 1) := by decide +kernel
theorem dX7_move_15 : decode cX7_move 15 = .ok (.goto 4, 3) := by decide +kernel
theorem dX7_move_18 : decode cX7_move 18 = .ok (.iconst 0, 1) := by decide +kernel
theorem dX7_move_19 : decode cX7_move 19 = .ok (.iconst 1, 1) := by decide +kernel
theorem dX7_move_20 : decode cX7_move 20 = .ok (.invokevirtual 154, 3) := by decide +kernel
theorem dX7_move_23 : decode cX7_move 23 = .ok (.ifCond .ne 28, 3) := by decide +kernel
theorem dX7_move_26 : decode cX7_move 26 = .ok (.aload_n 0, 1) := by decide +kernel
theorem dX7_move_27 : decode cX7_move 27 = .ok (.iload_n 2, 1) := by decide +kernel
theorem dX7_move_28 : decode cX7_move 28 = .ok (.ifCond .lt 11, 3) := by decide +kernel
theorem dX7_move_31 : decode cX7_move 31 = .ok (.iload_n 2, 1) := by decide +kernel
theorem dX7_move_32 : decode cX7_move 32 = .ok (.aload_n 0, 1) := by decide +kernel
theorem dX7_move_33 : decode cX7_move 33 = .ok (.getfield 144, 3) := by decide +kernel
theorem dX7_move_36 : decode cX7_move 36 = .ok (.if_icmp .lt 7, 3) := by decide +kernel
theorem dX7_move_39 : decode cX7_move 39 = .ok (.iconst 1, 1) := by decide +kernel
theorem dX7_move_40 : decode cX7_move 40 = .ok (.goto 4, 3) := by decide +kernel
theorem dX7_move_43 : decode cX7_move 43 = .ok (.iconst 0, 1) := by decide +kernel
theorem dX7_move_44 : decode cX7_move 44 = .ok (.iconst 2, 1) := by decide +kernel
theorem dX7_move_45 : decode cX7_move 45 = .ok (.invokevirtual 154, 3) := by decide +kernel
theorem dX7_move_48 : decode cX7_move 48 = .ok (.ifCond .eq 5, 3) := by decide +kernel
theorem dX7_move_51 : decode cX7_move 51 = .ok (.iconst 0, 1) := by decide +kernel
theorem dX7_move_52 : decode cX7_move 52 = .ok (.ireturn, 1) := by decide +kernel
theorem dX7_move_53 : decode cX7_move 53 = .ok (.iconst 0, 1) := by decide +kernel
theorem dX7_move_54 : decode cX7_move 54 = .ok (.istore_n 3, 1) := by decide +kernel
theorem dX7_move_55 : decode cX7_move 55 = .ok (.aload_n 0, 1) := by decide +kernel
theorem dX7_move_56 : decode cX7_move 56 = .ok (.getfield 36, 3) := by decide +kernel
theorem dX7_move_59 : decode cX7_move 59 = .ok (.iload_n 3, 1) := by decide +kernel
theorem dX7_move_60 : decode cX7_move 60 = .ok (.iaload, 1) := by decide +kernel
theorem dX7_move_61 : decode cX7_move 61 = .ok (.iload_n 1, 1) := by decide +kernel
theorem dX7_move_62 : decode cX7_move 62 = .ok (.if_icmp .eq 9, 3) := by decide +kernel
theorem dX7_move_65 : decode cX7_move 65 = .ok (.iinc 3 1, 3) := by decide +kernel
theorem dX7_move_68 : decode cX7_move 68 = .ok (.goto (-13), 3) := by decide +kernel
theorem dX7_move_71 : decode cX7_move 71 = .ok (.iconst 0, 1) := by decide +kernel
theorem dX7_move_72 : decode cX7_move 72 = .ok (.istore 4, 2) := by decide +kernel
theorem dX7_move_74 : decode cX7_move 74 = .ok (.iload 4, 2) := by decide +kernel
theorem dX7_move_76 : decode cX7_move 76 = .ok (.aload_n 0, 1) := by decide +kernel
theorem dX7_move_77 : decode cX7_move 77 = .ok (.getfield 144, 3) := by decide +kernel
theorem dX7_move_80 : decode cX7_move 80 = .ok (.if_icmp .ge 23, 3) := by decide +kernel
theorem dX7_move_83 : decode cX7_move 83 = .ok (.aload_n 0, 1) := by decide +kernel
theorem dX7_move_84 : decode cX7_move 84 = .ok (.getfield 61, 3) := by decide +kernel
theorem dX7_move_87 : decode cX7_move 87 = .ok (.iload 4, 2) := by decide +kernel
theorem dX7_move_89 : decode cX7_move 89 = .ok (.aload_n 0, 1) := by decide +kernel
theorem dX7_move_90 : decode cX7_move 90 = .ok (.getfield 36, 3) := by decide +kernel
theorem dX7_move_93 : decode cX7_move 93 = .ok (.iload 4, 2) := by decide +kernel
theorem dX7_move_95 : decode cX7_move 95 = .ok (.iaload, 1) := by decide +kernel
theorem dX7_move_96 : decode cX7_move 96 = .ok (.iastore, 1) := by decide +kernel
theorem dX7_move_97 : decode cX7_move 97 = .ok (.iinc 4 1, 3) := by decide +kernel
theorem dX7_move_100 : decode cX7_move 100 = .ok (.goto (-26), 3) := by decide +kernel
theorem dX7_move_103 : decode cX7_move 103 = .ok (.iconst 0, 1) := by decide +kernel
theorem dX7_move_104 : decode cX7_move 104 = .ok (.istore 4, 2) := by decide +kernel
theorem dX7_move_106 : decode cX7_move 106 = .ok (.iconst 0, 1) := by decide +kernel
theorem dX7_move_107 : decode cX7_move 107 = .ok (.istore 5, 2) := by decide +kernel
theorem dX7_move_109 : decode cX7_move 109 = .ok (.iload 5, 2) := by decide +kernel
theorem dX7_move_111 : decode cX7_move 111 = .ok (.aload_n 0, 1) := by decide +kernel
theorem dX7_move_112 : decode cX7_move 112 = .ok (.getfield 144, 3) := by decide +kernel
theorem dX7_move_115 : decode cX7_move 115 = .ok (.if_icmp .ge 64, 3) := by decide +kernel
theorem dX7_move_118 : decode cX7_move 118 = .ok (.iload 5, 2) := by decide +kernel
theorem dX7_move_120 : decode cX7_move 120 = .ok (.iload_n 2, 1) := by decide +kernel
theorem dX7_move_121 : decode cX7_move 121 = .ok (.if_icmp .ne 14, 3) := by decide +kernel
theorem dX7_move_124 : decode cX7_move 124 = .ok (.aload_n 0, 1) := by decide +kernel
theorem dX7_move_125 : decode cX7_move 125 = .ok (.getfield 36, 3) := by decide +kernel
theorem dX7_move_128 : decode cX7_move 128 = .ok (.iload 5, 2) := by decide +kernel
theorem dX7_move_130 : decode cX7_move 130 = .ok (.iload_n 1, 1) := by decide +kernel
theorem dX7_move_131 : decode cX7_move 131 = .ok (.iastore, 1) := by decide +kernel
theorem dX7_move_132 : decode cX7_move 132 = .ok (.goto 41, 3) := by decide +kernel
theorem dX7_move_135 : decode cX7_move 135 = .ok (.iload 4, 2) := by decide +kernel
theorem dX7_move_137 : decode cX7_move 137 = .ok (.aload_n 0, 1) := by decide +kernel
theorem dX7_move_138 : decode cX7_move 138 = .ok (.getfield 61, 3) := by decide +kernel
theorem dX7_move_141 : decode cX7_move 141 = .ok (.iload 4, 2) := by decide +kernel
theorem dX7_move_143 : decode cX7_move 143 = .ok (.iaload, 1) := by decide +kernel
theorem dX7_move_144 : decode cX7_move 144 = .ok (.iload_n 1, 1) := by decide +kernel
theorem dX7_move_145 : decode cX7_move 145 = .ok (.if_icmp .ne 7, 3) := by decide +kernel
theorem dX7_move_148 : decode cX7_move 148 = .ok (.iconst 1, 1) := by decide +kernel
theorem dX7_move_149 : decode cX7_move 149 = .ok (.goto 4, 3) := by decide +kernel
theorem dX7_move_152 : decode cX7_move 152 = .ok (.iconst 0, 1) := by decide +kernel
theorem dX7_move_153 : decode cX7_move 153 = .ok (.iadd, 1) := by decide +kernel
theorem dX7_move_154 : decode cX7_move 154 = .ok (.istore 4, 2) := by decide +kernel
theorem dX7_move_156 : decode cX7_move 156 = .ok (.aload_n 0, 1) := by decide +kernel
theorem dX7_move_157 : decode cX7_move 157 = .ok (.getfield 36, 3) := by decide +kernel
theorem dX7_move_160 : decode cX7_move 160 = .ok (.iload 5, 2) := by decide +kernel
theorem dX7_move_162 : decode cX7_move 162 = .ok (.aload_n 0, 1) := by decide +kernel
theorem dX7_move_163 : decode cX7_move 163 = .ok (.getfield 61, 3) := by decide +kernel
theorem dX7_move_166 : decode cX7_move 166 = .ok (.iload 4, 2) := by decide +kernel
theorem dX7_move_168 : decode cX7_move 168 = .ok (.iaload, 1) := by decide +kernel
theorem dX7_move_169 : decode cX7_move 169 = .ok (.iastore, 1) := by decide +kernel
theorem dX7_move_170 : decode cX7_move 170 = .ok (.iinc 4 1, 3) := by decide +kernel
theorem dX7_move_173 : decode cX7_move 173 = .ok (.iinc 5 1, 3) := by decide +kernel
theorem dX7_move_176 : decode cX7_move 176 = .ok (.goto (-67), 3) := by decide +kernel
theorem dX7_move_179 : decode cX7_move 179 = .ok (.iload_n 3, 1) := by decide +kernel
theorem dX7_move_180 : decode cX7_move 180 = .ok (.ireturn, 1) := by decide +kernel
theorem dX7_late_0 : decode cX7_late 0 = .ok (.iload_n 1, 1) := by decide +kernel
theorem dX7_late_1 : decode cX7_late 1 = .ok (.aload_n 0, 1) := by decide +kernel
theorem dX7_late_2 : decode cX7_late 2 = .ok (.getfield 42, 3) := by decide +kernel
theorem dX7_late_5 : decode cX7_late 5 = .ok (.if_icmp .le 12, 3) := by decide +kernel
theorem dX7_late_8 : decode cX7_late 8 = .ok (.iload_n 1, 1) := by decide +kernel
theorem dX7_late_9 : decode cX7_late 9 = .ok (.aload_n 0, 1) := by decide +kernel
theorem dX7_late_10 : decode cX7_late 10 = .ok (.getfield 42, 3) := by decide +kernel
theorem dX7_late_13 : decode cX7_late 13 = .ok (.isub, 1) := by decide +kernel
theorem dX7_late_14 : decode cX7_late 14 = .ok (.goto 4, 3) := by decide +kernel
theorem dX7_late_17 : decode cX7_late 17 = .ok (.iconst 0, 1) := by decide +kernel
theorem dX7_late_18 : decode cX7_late 18 = .ok (.ireturn, 1) := by decide +kernel
theorem dX7_part_0 : decode cX7_part 0 = .ok (.aload_n 0, 1) := by decide +kernel
theorem dX7_part_1 : decode cX7_part 1 = .ok (.iconst 0, 1) := by decide +kernel
theorem dX7_part_2 : decode cX7_part 2 = .ok (.putfield 79, 3) := by decide +kernel
theorem dX7_part_5 : decode cX7_part 5 = .ok (.iconst 0, 1) := by decide +kernel
theorem dX7_part_6 : decode cX7_part 6 = .ok (.istore_n 1, 1) := by decide +kernel
theorem dX7_part_7 : decode cX7_part 7 = .ok (.iconst 0, 1) := by decide +kernel
theorem dX7_part_8 : decode cX7_part 8 = .ok (.istore_n 2, 1) := by decide +kernel
theorem dX7_part_9 : decode cX7_part 9 = .ok (.iload_n 2, 1) := by decide +kernel
theorem dX7_part_10 : decode cX7_part 10 = .ok (.aload_n 0, 1) := by decide +kernel
theorem dX7_part_11 : decode cX7_part 11 = .ok (.getfield 161, 3) := by decide +kernel
theorem dX7_part_14 : decode cX7_part 14 = .ok (.if_icmp .ge 37, 3) := by decide +kernel
theorem dX7_part_17 : decode cX7_part 17 = .ok (.aload_n 0, 1) := by decide +kernel
theorem dX7_part_18 : decode cX7_part 18 = .ok (.iconst 2, 1) := by decide +kernel
theorem dX7_part_19 : decode cX7_part 19 = .ok (.iload_n 2, 1) := by decide +kernel
theorem dX7_part_20 : decode cX7_part 20 = .ok (.iadd, 1) := by decide +kernel
theorem dX7_part_21 : decode cX7_part 21 = .ok (.invokevirtual 183, 3) := by decide +kernel
theorem dX7_part_24 : decode cX7_part 24 = .ok (.istore_n 3, 1) := by decide +kernel
theorem dX7_part_25 : decode cX7_part 25 = .ok (.iload_n 1, 1) := by decide +kernel
theorem dX7_part_26 : decode cX7_part 26 = .ok (.iload_n 3, 1) := by decide +kernel
theorem dX7_part_27 : decode cX7_part 27 = .ok (.ifCond .lt 15, 3) := by decide +kernel
theorem dX7_part_30 : decode cX7_part 30 = .ok (.iload_n 3, 1) := by decide +kernel
theorem dX7_part_31 : decode cX7_part 31 = .ok (.aload_n 0, 1) := by decide +kernel
theorem dX7_part_32 : decode cX7_part 32 = .ok (.getfield 42, 3) := by decide +kernel
theorem dX7_part_35 : decode cX7_part 35 = .ok (.if_icmp .gt 7, 3) := by decide +kernel
theorem dX7_part_38 : decode cX7_part 38 = .ok (.iconst 1, 1) := by decide +kernel
theorem dX7_part_39 : decode cX7_part 39 = .ok (.goto 4, 3) := by decide +kernel
theorem dX7_part_42 : decode cX7_part 42 = .ok (.iconst 0, 1) := by decide +kernel
theorem dX7_part_43 : decode cX7_part 43 = .ok (.iadd, 1) := by decide +kernel
theorem dX7_part_44 : decode cX7_part 44 = .ok (.istore_n 1, 1) := by decide +kernel
theorem dX7_part_45 : decode cX7_part 45 = .ok (.iinc 2 1, 3) := by decide +kernel
theorem dX7_part_48 : decode cX7_part 48 = .ok (.goto (-39), 3) := by decide +kernel
theorem dX7_part_51 : decode cX7_part 51 = .ok (.iload_n 1, 1) := by decide +kernel
theorem dX7_part_52 : decode cX7_part 52 = .ok (.ireturn, 1) := by decide +kernel
theorem dX7_onOf_0 : decode cX7_onOf 0 = .ok (.iconst 0, 1) := by decide +kernel
theorem dX7_onOf_1 : decode cX7_onOf 1 = .ok (.istore_n 1, 1) := by decide +kernel
theorem dX7_onOf_2 : decode cX7_onOf 2 = .ok (.iconst 1, 1) := by decide +kernel
theorem dX7_onOf_3 : decode cX7_onOf 3 = .ok (.istore_n 2, 1) := by decide +kernel
theorem dX7_onOf_4 : decode cX7_onOf 4 = .ok (.iconst 0, 1) := by decide +kernel
theorem dX7_onOf_5 : decode cX7_onOf 5 = .ok (.istore_n 3, 1) := by decide +kernel
theorem dX7_onOf_6 : decode cX7_onOf 6 = .ok (.iload_n 3, 1) := by decide +kernel
theorem dX7_onOf_7 : decode cX7_onOf 7 = .ok (.aload_n 0, 1) := by decide +kernel
theorem dX7_onOf_8 : decode cX7_onOf 8 = .ok (.getfield 161, 3) := by decide +kernel
theorem dX7_onOf_11 : decode cX7_onOf 11 = .ok (.if_icmp .ge 79, 3) := by decide +kernel
theorem dX7_onOf_14 : decode cX7_onOf 14 = .ok (.aload_n 0, 1) := by decide +kernel
theorem dX7_onOf_15 : decode cX7_onOf 15 = .ok (.iconst 2, 1) := by decide +kernel
theorem dX7_onOf_16 : decode cX7_onOf 16 = .ok (.iload_n 3, 1) := by decide +kernel
theorem dX7_onOf_17 : decode cX7_onOf 17 = .ok (.iadd, 1) := by decide +kernel
theorem dX7_onOf_18 : decode cX7_onOf 18 = .ok (.invokevirtual 183, 3) := by decide +kernel
theorem dX7_onOf_21 : decode cX7_onOf 21 = .ok (.istore 4, 2) := by decide +kernel
theorem dX7_onOf_23 : decode cX7_onOf 23 = .ok (.iconst 0, 1) := by decide +kernel
theorem dX7_onOf_24 : decode cX7_onOf 24 = .ok (.istore 5, 2) := by decide +kernel
theorem dX7_onOf_26 : decode cX7_onOf 26 = .ok (.iload 5, 2) := by decide +kernel
theorem dX7_onOf_28 : decode cX7_onOf 28 = .ok (.aload_n 0, 1) := by decide +kernel
theorem dX7_onOf_29 : decode cX7_onOf 29 = .ok (.getfield 144, 3) := by decide +kernel
theorem dX7_onOf_32 : decode cX7_onOf 32 = .ok (.if_icmp .ge 28, 3) := by decide +kernel
theorem dX7_onOf_35 : decode cX7_onOf 35 = .ok (.aload_n 0, 1) := by decide +kernel
theorem dX7_onOf_36 : decode cX7_onOf 36 = .ok (.getfield 67, 3) := by decide +kernel
theorem dX7_onOf_39 : decode cX7_onOf 39 = .ok (.bipush 16, 2) := by decide +kernel
theorem dX7_onOf_41 : decode cX7_onOf 41 = .ok (.iload_n 3, 1) := by decide +kernel
theorem dX7_onOf_42 : decode cX7_onOf 42 = .ok (.imul, 1) := by decide +kernel
theorem dX7_onOf_43 : decode cX7_onOf 43 = .ok (.iload 5, 2) := by decide +kernel
theorem dX7_onOf_45 : decode cX7_onOf 45 = .ok (.iadd, 1) := by decide +kernel
theorem dX7_onOf_46 : decode cX7_onOf 46 = .ok (.aload_n 0, 1) := by decide +kernel
theorem dX7_onOf_47 : decode cX7_onOf 47 = .ok (.getfield 55, 3) := by decide +kernel
theorem dX7_onOf_50 : decode cX7_onOf 50 = .ok (.iload 5, 2) := by decide +kernel
theorem dX7_onOf_52 : decode cX7_onOf 52 = .ok (.iaload, 1) := by decide +kernel
theorem dX7_onOf_53 : decode cX7_onOf 53 = .ok (.iastore, 1) := by decide +kernel
theorem dX7_onOf_54 : decode cX7_onOf 54 = .ok (.iinc 5 1, 3) := by decide +kernel
theorem dX7_onOf_57 : decode cX7_onOf 57 = .ok (.goto (-31), 3) := by decide +kernel
theorem dX7_onOf_60 : decode cX7_onOf 60 = .ok (.iload_n 2, 1) := by decide +kernel
theorem dX7_onOf_61 : decode cX7_onOf 61 = .ok (.ifCond .eq 12, 3) := by decide +kernel
theorem dX7_onOf_64 : decode cX7_onOf 64 = .ok (.iload 4, 2) := by decide +kernel
theorem dX7_onOf_66 : decode cX7_onOf 66 = .ok (.ifCond .lt 7, 3) := by decide +kernel
theorem dX7_onOf_69 : decode cX7_onOf 69 = .ok (.iconst 1, 1) := by decide +kernel
theorem dX7_onOf_70 : decode cX7_onOf 70 = .ok (.goto 4, 3) := by decide +kernel
theorem dX7_onOf_73 : decode cX7_onOf 73 = .ok (.iconst 0, 1) := by decide +kernel
theorem dX7_onOf_74 : decode cX7_onOf 74 = .ok (.istore_n 2, 1) := by decide +kernel
theorem dX7_onOf_75 : decode cX7_onOf 75 = .ok (.iload_n 1, 1) := by decide +kernel
theorem dX7_onOf_76 : decode cX7_onOf 76 = .ok (.aload_n 0, 1) := by decide +kernel
theorem dX7_onOf_77 : decode cX7_onOf 77 = .ok (.iload 4, 2) := by decide +kernel
theorem dX7_onOf_79 : decode cX7_onOf 79 = .ok (.invokevirtual 193, 3) := by decide +kernel
theorem dX7_onOf_82 : decode cX7_onOf 82 = .ok (.iadd, 1) := by decide +kernel
theorem dX7_onOf_83 : decode cX7_onOf 83 = .ok (.istore_n 1, 1) := by decide +kernel
theorem dX7_onOf_84 : decode cX7_onOf 84 = .ok (.iinc 3 1, 3) := by decide +kernel
theorem dX7_onOf_87 : decode cX7_onOf 87 = .ok (.goto (-81), 3) := by decide +kernel
theorem dX7_onOf_90 : decode cX7_onOf 90 = .ok (.aload_n 0, 1) := by decide +kernel
theorem dX7_onOf_91 : decode cX7_onOf 91 = .ok (.getfield 161, 3) := by decide +kernel
theorem dX7_onOf_94 : decode cX7_onOf 94 = .ok (.ifCond .eq 7, 3) := by decide +kernel
theorem dX7_onOf_97 : decode cX7_onOf 97 = .ok (.iload_n 2, 1) := by decide +kernel
theorem dX7_onOf_98 : decode cX7_onOf 98 = .ok (.ifCond .ne 7, 3) := by decide +kernel
theorem dX7_onOf_101 : decode cX7_onOf 101 = .ok (.iconst (-1), 1) := by decide +kernel
theorem dX7_onOf_102 : decode cX7_onOf 102 = .ok (.goto 4, 3) := by decide +kernel
theorem dX7_onOf_105 : decode cX7_onOf 105 = .ok (.iload_n 1, 1) := by decide +kernel
theorem dX7_onOf_106 : decode cX7_onOf 106 = .ok (.ireturn, 1) := by decide +kernel
theorem dX7_on_0 : decode cX7_on 0 = .ok (.aload_n 0, 1) := by decide +kernel
theorem dX7_on_1 : decode cX7_on 1 = .ok (.iconst 0, 1) := by decide +kernel
theorem dX7_on_2 : decode cX7_on 2 = .ok (.putfield 79, 3) := by decide +kernel
theorem dX7_on_5 : decode cX7_on 5 = .ok (.aload_n 0, 1) := by decide +kernel
theorem dX7_on_6 : decode cX7_on 6 = .ok (.invokevirtual 196, 3) := by decide +kernel
theorem dX7_on_9 : decode cX7_on 9 = .ok (.ireturn, 1) := by decide +kernel
theorem dX7_offOf_0 : decode cX7_offOf 0 = .ok (.iconst 0, 1) := by decide +kernel
theorem dX7_offOf_1 : decode cX7_offOf 1 = .ok (.istore_n 2, 1) := by decide +kernel
theorem dX7_offOf_2 : decode cX7_offOf 2 = .ok (.iconst 0, 1) := by decide +kernel
theorem dX7_offOf_3 : decode cX7_offOf 3 = .ok (.istore_n 3, 1) := by decide +kernel
theorem dX7_offOf_4 : decode cX7_offOf 4 = .ok (.iload_n 3, 1) := by decide +kernel
theorem dX7_offOf_5 : decode cX7_offOf 5 = .ok (.aload_n 0, 1) := by decide +kernel
theorem dX7_offOf_6 : decode cX7_offOf 6 = .ok (.getfield 161, 3) := by decide +kernel
theorem dX7_offOf_9 : decode cX7_offOf 9 = .ok (.if_icmp .ge 91, 3) := by decide +kernel
theorem dX7_offOf_12 : decode cX7_offOf 12 = .ok (.iload_n 1, 1) := by decide +kernel
theorem dX7_offOf_13 : decode cX7_offOf 13 = .ok (.istore 4, 2) := by decide +kernel
theorem dX7_offOf_15 : decode cX7_offOf 15 = .ok (.iconst 0, 1) := by decide +kernel
theorem dX7_offOf_16 : decode cX7_offOf 16 = .ok (.istore 5, 2) := by decide +kernel
theorem dX7_offOf_18 : decode cX7_offOf 18 = .ok (.iload 5, 2) := by decide +kernel
theorem dX7_offOf_20 : decode cX7_offOf 20 = .ok (.aload_n 0, 1) := by decide +kernel
theorem dX7_offOf_21 : decode cX7_offOf 21 = .ok (.getfield 144, 3) := by decide +kernel
theorem dX7_offOf_24 : decode cX7_offOf 24 = .ok (.if_icmp .ge 61, 3) := by decide +kernel
theorem dX7_offOf_27 : decode cX7_offOf 27 = .ok (.aload_n 0, 1) := by decide +kernel
theorem dX7_offOf_28 : decode cX7_offOf 28 = .ok (.getfield 67, 3) := by decide +kernel
theorem dX7_offOf_31 : decode cX7_offOf 31 = .ok (.bipush 16, 2) := by decide +kernel
theorem dX7_offOf_33 : decode cX7_offOf 33 = .ok (.iload_n 3, 1) := by decide +kernel
theorem dX7_offOf_34 : decode cX7_offOf 34 = .ok (.imul, 1) := by decide +kernel
theorem dX7_offOf_35 : decode cX7_offOf 35 = .ok (.iload 5, 2) := by decide +kernel
theorem dX7_offOf_37 : decode cX7_offOf 37 = .ok (.iadd, 1) := by decide +kernel
theorem dX7_offOf_38 : decode cX7_offOf 38 = .ok (.iaload, 1) := by decide +kernel
theorem dX7_offOf_39 : decode cX7_offOf 39 = .ok (.istore 6, 2) := by decide +kernel
theorem dX7_offOf_41 : decode cX7_offOf 41 = .ok (.iload 6, 2) := by decide +kernel
theorem dX7_offOf_43 : decode cX7_offOf 43 = .ok (.ifCond .lt 36, 3) := by decide +kernel
theorem dX7_offOf_46 : decode cX7_offOf 46 = .ok (.iload 6, 2) := by decide +kernel
theorem dX7_offOf_48 : decode cX7_offOf 48 = .ok (.iload_n 1, 1) := by decide +kernel
theorem dX7_offOf_49 : decode cX7_offOf 49 = .ok (.if_icmp .lt 6, 3) := by decide +kernel
theorem dX7_offOf_52 : decode cX7_offOf 52 = .ok (.goto 27, 3) := by decide +kernel
theorem dX7_offOf_55 : decode cX7_offOf 55 = .ok (.aload_n 0, 1) := by decide +kernel
theorem dX7_offOf_56 : decode cX7_offOf 56 = .ok (.getfield 30, 3) := by decide +kernel
theorem dX7_offOf_59 : decode cX7_offOf 59 = .ok (.iload 5, 2) := by decide +kernel
theorem dX7_offOf_61 : decode cX7_offOf 61 = .ok (.iaload, 1) := by decide +kernel
theorem dX7_offOf_62 : decode cX7_offOf 62 = .ok (.ifCond .ge 5, 3) := by decide +kernel
theorem dX7_offOf_65 : decode cX7_offOf 65 = .ok (.iconst (-1), 1) := by decide +kernel
theorem dX7_offOf_66 : decode cX7_offOf 66 = .ok (.ireturn, 1) := by decide +kernel
theorem dX7_offOf_67 : decode cX7_offOf 67 = .ok (.iload 4, 2) := by decide +kernel
theorem dX7_offOf_69 : decode cX7_offOf 69 = .ok (.aload_n 0, 1) := by decide +kernel
theorem dX7_offOf_70 : decode cX7_offOf 70 = .ok (.getfield 30, 3) := by decide +kernel
theorem dX7_offOf_73 : decode cX7_offOf 73 = .ok (.iload 5, 2) := by decide +kernel
theorem dX7_offOf_75 : decode cX7_offOf 75 = .ok (.iaload, 1) := by decide +kernel
theorem dX7_offOf_76 : decode cX7_offOf 76 = .ok (.iadd, 1) := by decide +kernel
theorem dX7_offOf_77 : decode cX7_offOf 77 = .ok (.istore 4, 2) := by decide +kernel
theorem dX7_offOf_79 : decode cX7_offOf 79 = .ok (.iinc 5 1, 3) := by decide +kernel
theorem dX7_offOf_82 : decode cX7_offOf 82 = .ok (.goto (-64), 3) := by decide +kernel
theorem dX7_offOf_85 : decode cX7_offOf 85 = .ok (.iload_n 2, 1) := by decide +kernel
theorem dX7_offOf_86 : decode cX7_offOf 86 = .ok (.aload_n 0, 1) := by decide +kernel
theorem dX7_offOf_87 : decode cX7_offOf 87 = .ok (.iload 4, 2) := by decide +kernel
theorem dX7_offOf_89 : decode cX7_offOf 89 = .ok (.invokevirtual 193, 3) := by decide +kernel
theorem dX7_offOf_92 : decode cX7_offOf 92 = .ok (.iadd, 1) := by decide +kernel
theorem dX7_offOf_93 : decode cX7_offOf 93 = .ok (.istore_n 2, 1) := by decide +kernel
theorem dX7_offOf_94 : decode cX7_offOf 94 = .ok (.iinc 3 1, 3) := by decide +kernel
theorem dX7_offOf_97 : decode cX7_offOf 97 = .ok (.goto (-93), 3) := by decide +kernel
theorem dX7_offOf_100 : decode cX7_offOf 100 = .ok (.aload_n 0, 1) := by decide +kernel
theorem dX7_offOf_101 : decode cX7_offOf 101 = .ok (.getfield 161, 3) := by decide +kernel
theorem dX7_offOf_104 : decode cX7_offOf 104 = .ok (.ifCond .ne 7, 3) := by decide +kernel
theorem dX7_offOf_107 : decode cX7_offOf 107 = .ok (.iconst (-1), 1) := by decide +kernel
theorem dX7_offOf_108 : decode cX7_offOf 108 = .ok (.goto 4, 3) := by decide +kernel
theorem dX7_offOf_111 : decode cX7_offOf 111 = .ok (.iload_n 2, 1) := by decide +kernel
theorem dX7_offOf_112 : decode cX7_offOf 112 = .ok (.ireturn, 1) := by decide +kernel
theorem dX7_off_0 : decode cX7_off 0 = .ok (.aload_n 0, 1) := by decide +kernel
theorem dX7_off_1 : decode cX7_off 1 = .ok (.iconst 0, 1) := by decide +kernel
theorem dX7_off_2 : decode cX7_off 2 = .ok (.putfield 79, 3) := by decide +kernel
theorem dX7_off_5 : decode cX7_off 5 = .ok (.aload_n 0, 1) := by decide +kernel
theorem dX7_off_6 : decode cX7_off 6 = .ok (.iload_n 1, 1) := by decide +kernel
theorem dX7_off_7 : decode cX7_off 7 = .ok (.ifCond .lt 10, 3) := by decide +kernel
theorem dX7_off_10 : decode cX7_off 10 = .ok (.iload_n 1, 1) := by decide +kernel
theorem dX7_off_11 : decode cX7_off 11 = .ok (.sipush 1000, 3) := by decide +kernel
theorem dX7_off_14 : decode cX7_off 14 = .ok (.if_icmp .le 7, 3) := by decide +kernel
theorem dX7_off_17 : decode cX7_off 17 = .ok (.iconst 1, 1) := by decide +kernel
theorem dX7_off_18 : decode cX7_off 18 = .ok (.goto 4, 3) := by decide +kernel
theorem dX7_off_21 : decode cX7_off 21 = .ok (.iconst 0, 1) := by decide +kernel
theorem dX7_off_22 : decode cX7_off 22 = .ok (.iconst 1, 1) := by decide +kernel
theorem dX7_off_23 : decode cX7_off 23 = .ok (.invokevirtual 154, 3) := by decide +kernel
theorem dX7_off_26 : decode cX7_off 26 = .ok (.ifCond .eq 5, 3) := by decide +kernel
theorem dX7_off_29 : decode cX7_off 29 = .ok (.iconst 0, 1) := by decide +kernel
theorem dX7_off_30 : decode cX7_off 30 = .ok (.ireturn, 1) := by decide +kernel
theorem dX7_off_31 : decode cX7_off 31 = .ok (.aload_n 0, 1) := by decide +kernel
theorem dX7_off_32 : decode cX7_off 32 = .ok (.invokevirtual 196, 3) := by decide +kernel
theorem dX7_off_35 : decode cX7_off 35 = .ok (.pop, 1) := by decide +kernel
theorem dX7_off_36 : decode cX7_off 36 = .ok (.aload_n 0, 1) := by decide +kernel
theorem dX7_off_37 : decode cX7_off 37 = .ok (.iload_n 1, 1) := by decide +kernel
theorem dX7_off_38 : decode cX7_off 38 = .ok (.invokevirtual 199, 3) := by decide +kernel
theorem dX7_off_41 : decode cX7_off 41 = .ok (.ireturn, 1) := by decide +kernel
theorem dX7_last_0 : decode cX7_last 0 = .ok (.aload_n 0, 1) := by decide +kernel
theorem dX7_last_1 : decode cX7_last 1 = .ok (.iconst 0, 1) := by decide +kernel
theorem dX7_last_2 : decode cX7_last 2 = .ok (.putfield 79, 3) := by decide +kernel
theorem dX7_last_5 : decode cX7_last 5 = .ok (.aload_n 0, 1) := by decide +kernel
theorem dX7_last_6 : decode cX7_last 6 = .ok (.invokevirtual 196, 3) := by decide +kernel
theorem dX7_last_9 : decode cX7_last 9 = .ok (.istore_n 1, 1) := by decide +kernel
theorem dX7_last_10 : decode cX7_last 10 = .ok (.sipush 1000, 3) := by decide +kernel
theorem dX7_last_13 : decode cX7_last 13 = .ok (.istore_n 2, 1) := by decide +kernel
theorem dX7_last_14 : decode cX7_last 14 = .ok (.iload_n 2, 1) := by decide +kernel
theorem dX7_last_15 : decode cX7_last 15 = .ok (.ifCond .lt 30, 3) := by decide +kernel
theorem dX7_last_18 : decode cX7_last 18 = .ok (.aload_n 0, 1) := by decide +kernel
theorem dX7_last_19 : decode cX7_last 19 = .ok (.iload_n 2, 1) := by decide +kernel
theorem dX7_last_20 : decode cX7_last 20 = .ok (.invokevirtual 199, 3) := by decide +kernel
theorem dX7_last_23 : decode cX7_last 23 = .ok (.istore_n 3, 1) := by decide +kernel
theorem dX7_last_24 : decode cX7_last 24 = .ok (.iload_n 3, 1) := by decide +kernel
theorem dX7_last_25 : decode cX7_last 25 = .ok (.ifCond .lt 14, 3) := by decide +kernel
theorem dX7_last_28 : decode cX7_last 28 = .ok (.iload_n 1, 1) := by decide +kernel
theorem dX7_last_29 : decode cX7_last 29 = .ok (.ifCond .lt 8, 3) := by decide +kernel
theorem dX7_last_32 : decode cX7_last 32 = .ok (.iload_n 3, 1) := by decide +kernel
theorem dX7_last_33 : decode cX7_last 33 = .ok (.iload_n 1, 1) := by decide +kernel
theorem dX7_last_34 : decode cX7_last 34 = .ok (.if_icmp .gt 5, 3) := by decide +kernel
theorem dX7_last_37 : decode cX7_last 37 = .ok (.iload_n 2, 1) := by decide +kernel
theorem dX7_last_38 : decode cX7_last 38 = .ok (.ireturn, 1) := by decide +kernel
theorem dX7_last_39 : decode cX7_last 39 = .ok (.iinc 2 (-1), 3) := by decide +kernel
theorem dX7_last_42 : decode cX7_last 42 = .ok (.goto (-28), 3) := by decide +kernel
theorem dX7_last_45 : decode cX7_last 45 = .ok (.iconst (-1), 1) := by decide +kernel
theorem dX7_last_46 : decode cX7_last 46 = .ok (.ireturn, 1) := by decide +kernel
theorem dX7_train_0 : decode cX7_train 0 = .ok (.aload_n 0, 1) := by decide +kernel
theorem dX7_train_1 : decode cX7_train 1 = .ok (.iconst 0, 1) := by decide +kernel
theorem dX7_train_2 : decode cX7_train 2 = .ok (.putfield 79, 3) := by decide +kernel
theorem dX7_train_5 : decode cX7_train 5 = .ok (.aload_n 0, 1) := by decide +kernel
theorem dX7_train_6 : decode cX7_train 6 = .ok (.iload_n 1, 1) := by decide +kernel
theorem dX7_train_7 : decode cX7_train 7 = .ok (.ifCond .lt 10, 3) := by decide +kernel
theorem dX7_train_10 : decode cX7_train 10 = .ok (.iload_n 1, 1) := by decide +kernel
theorem dX7_train_11 : decode cX7_train 11 = .ok (.sipush 1000, 3) := by decide +kernel
theorem dX7_train_14 : decode cX7_train 14 = .ok (.if_icmp .le 7, 3) := by decide +kernel
theorem dX7_train_17 : decode cX7_train 17 = .ok (.iconst 1, 1) := by decide +kernel
theorem dX7_train_18 : decode cX7_train 18 = .ok (.goto 4, 3) := by decide +kernel
theorem dX7_train_21 : decode cX7_train 21 = .ok (.iconst 0, 1) := by decide +kernel
theorem dX7_train_22 : decode cX7_train 22 = .ok (.iconst 1, 1) := by decide +kernel
theorem dX7_train_23 : decode cX7_train 23 = .ok (.invokevirtual 154, 3) := by decide +kernel
theorem dX7_train_26 : decode cX7_train 26 = .ok (.ifCond .eq 5, 3) := by decide +kernel
theorem dX7_train_29 : decode cX7_train 29 = .ok (.iconst 0, 1) := by decide +kernel
theorem dX7_train_30 : decode cX7_train 30 = .ok (.ireturn, 1) := by decide +kernel
theorem dX7_train_31 : decode cX7_train 31 = .ok (.aload_n 0, 1) := by decide +kernel
theorem dX7_train_32 : decode cX7_train 32 = .ok (.getfield 202, 3) := by decide +kernel
theorem dX7_train_35 : decode cX7_train 35 = .ok (.bipush 30, 2) := by decide +kernel
theorem dX7_train_37 : decode cX7_train 37 = .ok (.if_icmp .ne 5, 3) := by decide +kernel
theorem dX7_train_40 : decode cX7_train 40 = .ok (.iconst (-1), 1) := by decide +kernel
theorem dX7_train_41 : decode cX7_train 41 = .ok (.ireturn, 1) := by decide +kernel
theorem dX7_train_42 : decode cX7_train 42 = .ok (.iconst 0, 1) := by decide +kernel
theorem dX7_train_43 : decode cX7_train 43 = .ok (.istore_n 2, 1) := by decide +kernel
theorem dX7_train_44 : decode cX7_train 44 = .ok (.iload_n 2, 1) := by decide +kernel
theorem dX7_train_45 : decode cX7_train 45 = .ok (.aload_n 0, 1) := by decide +kernel
theorem dX7_train_46 : decode cX7_train 46 = .ok (.getfield 202, 3) := by decide +kernel
theorem dX7_train_49 : decode cX7_train 49 = .ok (.if_icmp .ge 22, 3) := by decide +kernel
theorem dX7_train_52 : decode cX7_train 52 = .ok (.aload_n 0, 1) := by decide +kernel
theorem dX7_train_53 : decode cX7_train 53 = .ok (.getfield 70, 3) := by decide +kernel
theorem dX7_train_56 : decode cX7_train 56 = .ok (.iload_n 2, 1) := by decide +kernel
theorem dX7_train_57 : decode cX7_train 57 = .ok (.iaload, 1) := by decide +kernel
theorem dX7_train_58 : decode cX7_train 58 = .ok (.iload_n 1, 1) := by decide +kernel
theorem dX7_train_59 : decode cX7_train 59 = .ok (.if_icmp .ne 6, 3) := by decide +kernel
theorem dX7_train_62 : decode cX7_train 62 = .ok (.bipush (-2), 2) := by decide +kernel
theorem dX7_train_64 : decode cX7_train 64 = .ok (.ireturn, 1) := by decide +kernel
theorem dX7_train_65 : decode cX7_train 65 = .ok (.iinc 2 1, 3) := by decide +kernel
theorem dX7_train_68 : decode cX7_train 68 = .ok (.goto (-24), 3) := by decide +kernel
theorem dX7_train_71 : decode cX7_train 71 = .ok (.aload_n 0, 1) := by decide +kernel
theorem dX7_train_72 : decode cX7_train 72 = .ok (.getfield 205, 3) := by decide +kernel
theorem dX7_train_75 : decode cX7_train 75 = .ok (.istore_n 2, 1) := by decide +kernel
theorem dX7_train_76 : decode cX7_train 76 = .ok (.iconst 0, 1) := by decide +kernel
theorem dX7_train_77 : decode cX7_train 77 = .ok (.istore_n 3, 1) := by decide +kernel
theorem dX7_train_78 : decode cX7_train 78 = .ok (.iload_n 3, 1) := by decide +kernel
theorem dX7_train_79 : decode cX7_train 79 = .ok (.aload_n 0, 1) := by decide +kernel
theorem dX7_train_80 : decode cX7_train 80 = .ok (.getfield 205, 3) := by decide +kernel
theorem dX7_train_83 : decode cX7_train 83 = .ok (.if_icmp .ge 44, 3) := by decide +kernel
theorem dX7_train_86 : decode cX7_train 86 = .ok (.aload_n 0, 1) := by decide +kernel
theorem dX7_train_87 : decode cX7_train 87 = .ok (.getfield 76, 3) := by decide +kernel
theorem dX7_train_90 : decode cX7_train 90 = .ok (.iload_n 3, 1) := by decide +kernel
theorem dX7_train_91 : decode cX7_train 91 = .ok (.iaload, 1) := by decide +kernel
theorem dX7_train_92 : decode cX7_train 92 = .ok (.iload_n 1, 1) := by decide +kernel
theorem dX7_train_93 : decode cX7_train 93 = .ok (.if_icmp .le 28, 3) := by decide +kernel
theorem dX7_train_96 : decode cX7_train 96 = .ok (.iload_n 2, 1) := by decide +kernel
theorem dX7_train_97 : decode cX7_train 97 = .ok (.aload_n 0, 1) := by decide +kernel
theorem dX7_train_98 : decode cX7_train 98 = .ok (.getfield 205, 3) := by decide +kernel
theorem dX7_train_101 : decode cX7_train 101 = .ok (.if_icmp .eq 18, 3) := by decide +kernel
theorem dX7_train_104 : decode cX7_train 104 = .ok (.aload_n 0, 1) := by decide +kernel
theorem dX7_train_105 : decode cX7_train 105 = .ok (.getfield 76, 3) := by decide +kernel
theorem dX7_train_108 : decode cX7_train 108 = .ok (.iload_n 3, 1) := by decide +kernel
theorem dX7_train_109 : decode cX7_train 109 = .ok (.iaload, 1) := by decide +kernel
theorem dX7_train_110 : decode cX7_train 110 = .ok (.aload_n 0, 1) := by decide +kernel
theorem dX7_train_111 : decode cX7_train 111 = .ok (.getfield 76, 3) := by decide +kernel
theorem dX7_train_114 : decode cX7_train 114 = .ok (.iload_n 2, 1) := by decide +kernel
theorem dX7_train_115 : decode cX7_train 115 = .ok (.iaload, 1) := by decide +kernel
theorem dX7_train_116 : decode cX7_train 116 = .ok (.if_icmp .ge 5, 3) := by decide +kernel
theorem dX7_train_119 : decode cX7_train 119 = .ok (.iload_n 3, 1) := by decide +kernel
theorem dX7_train_120 : decode cX7_train 120 = .ok (.istore_n 2, 1) := by decide +kernel
theorem dX7_train_121 : decode cX7_train 121 = .ok (.iinc 3 1, 3) := by decide +kernel
theorem dX7_train_124 : decode cX7_train 124 = .ok (.goto (-46), 3) := by decide +kernel
theorem dX7_train_127 : decode cX7_train 127 = .ok (.iload_n 2, 1) := by decide +kernel
theorem dX7_train_128 : decode cX7_train 128 = .ok (.aload_n 0, 1) := by decide +kernel
theorem dX7_train_129 : decode cX7_train 129 = .ok (.getfield 205, 3) := by decide +kernel
theorem dX7_train_132 : decode cX7_train 132 = .ok (.if_icmp .ne 13, 3) := by decide +kernel
theorem dX7_train_135 : decode cX7_train 135 = .ok (.aload_n 0, 1) := by decide +kernel
theorem dX7_train_136 : decode cX7_train 136 = .ok (.dup, 1) := by decide +kernel
theorem dX7_train_137 : decode cX7_train 137 = .ok (.getfield 205, 3) := by decide +kernel
theorem dX7_train_140 : decode cX7_train 140 = .ok (.iconst 1, 1) := by decide +kernel
theorem dX7_train_141 : decode cX7_train 141 = .ok (.iadd, 1) := by decide +kernel
theorem dX7_train_142 : decode cX7_train 142 = .ok (.putfield 205, 3) := by decide +kernel
theorem dX7_train_145 : decode cX7_train 145 = .ok (.aload_n 0, 1) := by decide +kernel
theorem dX7_train_146 : decode cX7_train 146 = .ok (.getfield 76, 3) := by decide +kernel
theorem dX7_train_149 : decode cX7_train 149 = .ok (.iload_n 2, 1) := by decide +kernel
theorem dX7_train_150 : decode cX7_train 150 = .ok (.iload_n 1, 1) := by decide +kernel
theorem dX7_train_151 : decode cX7_train 151 = .ok (.iastore, 1) := by decide +kernel
theorem dX7_train_152 : decode cX7_train 152 = .ok (.aload_n 0, 1) := by decide +kernel
theorem dX7_train_153 : decode cX7_train 153 = .ok (.getfield 70, 3) := by decide +kernel
theorem dX7_train_156 : decode cX7_train 156 = .ok (.aload_n 0, 1) := by decide +kernel
theorem dX7_train_157 : decode cX7_train 157 = .ok (.getfield 202, 3) := by decide +kernel
theorem dX7_train_160 : decode cX7_train 160 = .ok (.iload_n 1, 1) := by decide +kernel
theorem dX7_train_161 : decode cX7_train 161 = .ok (.iastore, 1) := by decide +kernel
theorem dX7_train_162 : decode cX7_train 162 = .ok (.aload_n 0, 1) := by decide +kernel
theorem dX7_train_163 : decode cX7_train 163 = .ok (.getfield 73, 3) := by decide +kernel
theorem dX7_train_166 : decode cX7_train 166 = .ok (.aload_n 0, 1) := by decide +kernel
theorem dX7_train_167 : decode cX7_train 167 = .ok (.getfield 202, 3) := by decide +kernel
theorem dX7_train_170 : decode cX7_train 170 = .ok (.iload_n 2, 1) := by decide +kernel
theorem dX7_train_171 : decode cX7_train 171 = .ok (.iastore, 1) := by decide +kernel
theorem dX7_train_172 : decode cX7_train 172 = .ok (.aload_n 0, 1) := by decide +kernel
theorem dX7_train_173 : decode cX7_train 173 = .ok (.dup, 1) := by decide +kernel
theorem dX7_train_174 : decode cX7_train 174 = .ok (.getfield 202, 3) := by decide +kernel
theorem dX7_train_177 : decode cX7_train 177 = .ok (.iconst 1, 1) := by decide +kernel
theorem dX7_train_178 : decode cX7_train 178 = .ok (.iadd, 1) := by decide +kernel
theorem dX7_train_179 : decode cX7_train 179 = .ok (.putfield 202, 3) := by decide +kernel
theorem dX7_train_182 : decode cX7_train 182 = .ok (.iload_n 2, 1) := by decide +kernel
theorem dX7_train_183 : decode cX7_train 183 = .ok (.ireturn, 1) := by decide +kernel
theorem dX7_ends_0 : decode cX7_ends 0 = .ok (.aload_n 0, 1) := by decide +kernel
theorem dX7_ends_1 : decode cX7_ends 1 = .ok (.iconst 0, 1) := by decide +kernel
theorem dX7_ends_2 : decode cX7_ends 2 = .ok (.putfield 79, 3) := by decide +kernel
theorem dX7_ends_5 : decode cX7_ends 5 = .ok (.aload_n 0, 1) := by decide +kernel
theorem dX7_ends_6 : decode cX7_ends 6 = .ok (.getfield 205, 3) := by decide +kernel
theorem dX7_ends_9 : decode cX7_ends 9 = .ok (.ireturn, 1) := by decide +kernel
theorem dX7_leave_0 : decode cX7_leave 0 = .ok (.aload_n 0, 1) := by decide +kernel
theorem dX7_leave_1 : decode cX7_leave 1 = .ok (.iconst 0, 1) := by decide +kernel
theorem dX7_leave_2 : decode cX7_leave 2 = .ok (.putfield 79, 3) := by decide +kernel
theorem dX7_leave_5 : decode cX7_leave 5 = .ok (.aload_n 0, 1) := by decide +kernel
theorem dX7_leave_6 : decode cX7_leave 6 = .ok (.getfield 202, 3) := by decide +kernel
theorem dX7_leave_9 : decode cX7_leave 9 = .ok (.istore_n 1, 1) := by decide +kernel
theorem dX7_leave_10 : decode cX7_leave 10 = .ok (.aload_n 0, 1) := by decide +kernel
theorem dX7_leave_11 : decode cX7_leave 11 = .ok (.iconst 0, 1) := by decide +kernel
theorem dX7_leave_12 : decode cX7_leave 12 = .ok (.putfield 202, 3) := by decide +kernel
theorem dX7_leave_15 : decode cX7_leave 15 = .ok (.aload_n 0, 1) := by decide +kernel
theorem dX7_leave_16 : decode cX7_leave 16 = .ok (.iconst 0, 1) := by decide +kernel
theorem dX7_leave_17 : decode cX7_leave 17 = .ok (.putfield 205, 3) := by decide +kernel
theorem dX7_leave_20 : decode cX7_leave 20 = .ok (.iload_n 1, 1) := by decide +kernel
theorem dX7_leave_21 : decode cX7_leave 21 = .ok (.ireturn, 1) := by decide +kernel
theorem dX7_out_0 : decode cX7_out 0 = .ok (.aload_n 0, 1) := by decide +kernel
theorem dX7_out_1 : decode cX7_out 1 = .ok (.iconst 0, 1) := by decide +kernel
theorem dX7_out_2 : decode cX7_out 2 = .ok (.putfield 79, 3) := by decide +kernel
theorem dX7_out_5 : decode cX7_out 5 = .ok (.iconst 0, 1) := by decide +kernel
theorem dX7_out_6 : decode cX7_out 6 = .ok (.istore_n 2, 1) := by decide +kernel
theorem dX7_out_7 : decode cX7_out 7 = .ok (.iload_n 2, 1) := by decide +kernel
theorem dX7_out_8 : decode cX7_out 8 = .ok (.aload_n 0, 1) := by decide +kernel
theorem dX7_out_9 : decode cX7_out 9 = .ok (.getfield 202, 3) := by decide +kernel
theorem dX7_out_12 : decode cX7_out 12 = .ok (.if_icmp .ge 65, 3) := by decide +kernel
theorem dX7_out_15 : decode cX7_out 15 = .ok (.iconst 0, 1) := by decide +kernel
theorem dX7_out_16 : decode cX7_out 16 = .ok (.istore_n 3, 1) := by decide +kernel
theorem dX7_out_17 : decode cX7_out 17 = .ok (.iconst 0, 1) := by decide +kernel
theorem dX7_out_18 : decode cX7_out 18 = .ok (.istore 4, 2) := by decide +kernel
theorem dX7_out_20 : decode cX7_out 20 = .ok (.iload 4, 2) := by decide +kernel
theorem dX7_out_22 : decode cX7_out 22 = .ok (.aload_n 0, 1) := by decide +kernel
theorem dX7_out_23 : decode cX7_out 23 = .ok (.getfield 202, 3) := by decide +kernel
theorem dX7_out_26 : decode cX7_out 26 = .ok (.if_icmp .ge 33, 3) := by decide +kernel
theorem dX7_out_29 : decode cX7_out 29 = .ok (.iload_n 3, 1) := by decide +kernel
theorem dX7_out_30 : decode cX7_out 30 = .ok (.aload_n 0, 1) := by decide +kernel
theorem dX7_out_31 : decode cX7_out 31 = .ok (.getfield 70, 3) := by decide +kernel
theorem dX7_out_34 : decode cX7_out 34 = .ok (.iload 4, 2) := by decide +kernel
theorem dX7_out_36 : decode cX7_out 36 = .ok (.iaload, 1) := by decide +kernel
theorem dX7_out_37 : decode cX7_out 37 = .ok (.aload_n 0, 1) := by decide +kernel
theorem dX7_out_38 : decode cX7_out 38 = .ok (.getfield 70, 3) := by decide +kernel
theorem dX7_out_41 : decode cX7_out 41 = .ok (.iload_n 2, 1) := by decide +kernel
theorem dX7_out_42 : decode cX7_out 42 = .ok (.iaload, 1) := by decide +kernel
theorem dX7_out_43 : decode cX7_out 43 = .ok (.if_icmp .ge 7, 3) := by decide +kernel
theorem dX7_out_46 : decode cX7_out 46 = .ok (.iconst 1, 1) := by decide +kernel
theorem dX7_out_47 : decode cX7_out 47 = .ok (.goto 4, 3) := by decide +kernel
theorem dX7_out_50 : decode cX7_out 50 = .ok (.iconst 0, 1) := by decide +kernel
theorem dX7_out_51 : decode cX7_out 51 = .ok (.iadd, 1) := by decide +kernel
theorem dX7_out_52 : decode cX7_out 52 = .ok (.istore_n 3, 1) := by decide +kernel
theorem dX7_out_53 : decode cX7_out 53 = .ok (.iinc 4 1, 3) := by decide +kernel
theorem dX7_out_56 : decode cX7_out 56 = .ok (.goto (-36), 3) := by decide +kernel
theorem dX7_out_59 : decode cX7_out 59 = .ok (.iload_n 3, 1) := by decide +kernel
theorem dX7_out_60 : decode cX7_out 60 = .ok (.iload_n 1, 1) := by decide +kernel
theorem dX7_out_61 : decode cX7_out 61 = .ok (.if_icmp .ne 10, 3) := by decide +kernel
theorem dX7_out_64 : decode cX7_out 64 = .ok (.aload_n 0, 1) := by decide +kernel
theorem dX7_out_65 : decode cX7_out 65 = .ok (.getfield 73, 3) := by decide +kernel
theorem dX7_out_68 : decode cX7_out 68 = .ok (.iload_n 2, 1) := by decide +kernel
theorem dX7_out_69 : decode cX7_out 69 = .ok (.iaload, 1) := by decide +kernel
theorem dX7_out_70 : decode cX7_out 70 = .ok (.ireturn, 1) := by decide +kernel
theorem dX7_out_71 : decode cX7_out 71 = .ok (.iinc 2 1, 3) := by decide +kernel
theorem dX7_out_74 : decode cX7_out 74 = .ok (.goto (-67), 3) := by decide +kernel
theorem dX7_out_77 : decode cX7_out 77 = .ok (.iconst (-1), 1) := by decide +kernel
theorem dX7_out_78 : decode cX7_out 78 = .ok (.ireturn, 1) := by decide +kernel
theorem dX7_count_0 : decode cX7_count 0 = .ok (.aload_n 0, 1) := by decide +kernel
theorem dX7_count_1 : decode cX7_count 1 = .ok (.iconst 0, 1) := by decide +kernel
theorem dX7_count_2 : decode cX7_count 2 = .ok (.putfield 79, 3) := by decide +kernel
theorem dX7_count_5 : decode cX7_count 5 = .ok (.iload_n 1, 1) := by decide +kernel
theorem dX7_count_6 : decode cX7_count 6 = .ok (.tableswitch 59 0 4 #[34, 39, 44, 49, 54], 34) := by decide +kernel
theorem dX7_count_40 : decode cX7_count 40 = .ok (.aload_n 0, 1) := by decide +kernel
theorem dX7_count_41 : decode cX7_count 41 = .ok (.getfield 144, 3) := by decide +kernel
theorem dX7_count_44 : decode cX7_count 44 = .ok (.ireturn, 1) := by decide +kernel
theorem dX7_count_45 : decode cX7_count 45 = .ok (.aload_n 0, 1) := by decide +kernel
theorem dX7_count_46 : decode cX7_count 46 = .ok (.getfield 161, 3) := by decide +kernel
theorem dX7_count_49 : decode cX7_count 49 = .ok (.ireturn, 1) := by decide +kernel
theorem dX7_count_50 : decode cX7_count 50 = .ok (.aload_n 0, 1) := by decide +kernel
theorem dX7_count_51 : decode cX7_count 51 = .ok (.getfield 167, 3) := by decide +kernel
theorem dX7_count_54 : decode cX7_count 54 = .ok (.ireturn, 1) := by decide +kernel
theorem dX7_count_55 : decode cX7_count 55 = .ok (.aload_n 0, 1) := by decide +kernel
theorem dX7_count_56 : decode cX7_count 56 = .ok (.getfield 202, 3) := by decide +kernel
theorem dX7_count_59 : decode cX7_count 59 = .ok (.ireturn, 1) := by decide +kernel
theorem dX7_count_60 : decode cX7_count 60 = .ok (.aload_n 0, 1) := by decide +kernel
theorem dX7_count_61 : decode cX7_count 61 = .ok (.getfield 82, 3) := by decide +kernel
theorem dX7_count_64 : decode cX7_count 64 = .ok (.ireturn, 1) := by decide +kernel
theorem dX7_count_65 : decode cX7_count 65 = .ok (.iconst (-1), 1) := by decide +kernel
theorem dX7_count_66 : decode cX7_count 66 = .ok (.ireturn, 1) := by decide +kernel
