theorem d_Q_byteAt_0 : decode prog_8_method_2_code 0 = .ok (.iload_n 1, 1) := by decide +kernel
theorem d_Q_byteAt_1 : decode prog_8_method_2_code 1 = .ok (.ifCond .lt 20, 3) := by decide +kernel
theorem d_Q_byteAt_4 : decode prog_8_method_2_code 4 = .ok (.iload_n 1, 1) := by decide +kernel
theorem d_Q_byteAt_5 : decode prog_8_method_2_code 5 = .ok (.aload_n 0, 1) := by decide +kernel
theorem d_Q_byteAt_6 : decode prog_8_method_2_code 6 = .ok (.getfield 24, 3) := by decide +kernel
theorem d_Q_byteAt_9 : decode prog_8_method_2_code 9 = .ok (.if_icmp .ge 12, 3) := by decide +kernel
theorem d_Q_byteAt_12 : decode prog_8_method_2_code 12 = .ok (.aload_n 0, 1) := by decide +kernel
theorem d_Q_byteAt_13 : decode prog_8_method_2_code 13 = .ok (.getfield 9, 3) := by decide +kernel
theorem d_Q_byteAt_16 : decode prog_8_method_2_code 16 = .ok (.iload_n 1, 1) := by decide +kernel
theorem d_Q_byteAt_17 : decode prog_8_method_2_code 17 = .ok (.iaload, 1) := by decide +kernel
theorem d_Q_byteAt_18 : decode prog_8_method_2_code 18 = .ok (.goto 4, 3) := by decide +kernel
theorem d_Q_byteAt_21 : decode prog_8_method_2_code 21 = .ok (.iconst (-1), 1) := by decide +kernel
theorem d_Q_byteAt_22 : decode prog_8_method_2_code 22 = .ok (.ireturn, 1) := by decide +kernel
theorem d_Q_begin_0 : decode prog_8_method_3_code 0 = .ok (.aload_n 0, 1) := by decide +kernel
theorem d_Q_begin_1 : decode prog_8_method_3_code 1 = .ok (.iconst 0, 1) := by decide +kernel
theorem d_Q_begin_2 : decode prog_8_method_3_code 2 = .ok (.putfield 24, 3) := by decide +kernel
theorem d_Q_begin_5 : decode prog_8_method_3_code 5 = .ok (.iload_n 1, 1) := by decide +kernel
theorem d_Q_begin_6 : decode prog_8_method_3_code 6 = .ok (.ifCond .eq 23, 3) := by decide +kernel
theorem d_Q_begin_9 : decode prog_8_method_3_code 9 = .ok (.aload_n 0, 1) := by decide +kernel
theorem d_Q_begin_10 : decode prog_8_method_3_code 10 = .ok (.iconst 0, 1) := by decide +kernel
theorem d_Q_begin_11 : decode prog_8_method_3_code 11 = .ok (.invokevirtual 28, 3) := by decide +kernel
theorem d_Q_begin_14 : decode prog_8_method_3_code 14 = .ok (.aload_n 0, 1) := by decide +kernel
theorem d_Q_begin_15 : decode prog_8_method_3_code 15 = .ok (.iconst 2, 1) := by decide +kernel
theorem d_Q_begin_16 : decode prog_8_method_3_code 16 = .ok (.iconst (-1), 1) := by decide +kernel
theorem d_Q_begin_17 : decode prog_8_method_3_code 17 = .ok (.bipush 74, 2) := by decide +kernel
theorem d_Q_begin_19 : decode prog_8_method_3_code 19 = .ok (.invokevirtual 32, 3) := by decide +kernel
theorem d_Q_begin_22 : decode prog_8_method_3_code 22 = .ok (.aload_n 0, 1) := by decide +kernel
theorem d_Q_begin_23 : decode prog_8_method_3_code 23 = .ok (.getfield 20, 3) := by decide +kernel
theorem d_Q_begin_26 : decode prog_8_method_3_code 26 = .ok (.invokevirtual 36, 3) := by decide +kernel
theorem d_Q_begin_29 : decode prog_8_method_3_code 29 = .ok (.return_, 1) := by decide +kernel
theorem d_Q_paintRow_0 : decode prog_8_method_4_code 0 = .ok (.aload_n 0, 1) := by decide +kernel
theorem d_Q_paintRow_1 : decode prog_8_method_4_code 1 = .ok (.aload_n 1, 1) := by decide +kernel
theorem d_Q_paintRow_2 : decode prog_8_method_4_code 2 = .ok (.iload_n 2, 1) := by decide +kernel
theorem d_Q_paintRow_3 : decode prog_8_method_4_code 3 = .ok (.invokevirtual 39, 3) := by decide +kernel
theorem d_Q_paintRow_6 : decode prog_8_method_4_code 6 = .ok (.istore_n 3, 1) := by decide +kernel
theorem d_Q_paintRow_7 : decode prog_8_method_4_code 7 = .ok (.iload_n 3, 1) := by decide +kernel
theorem d_Q_paintRow_8 : decode prog_8_method_4_code 8 = .ok (.iconst (-1), 1) := by decide +kernel
theorem d_Q_paintRow_9 : decode prog_8_method_4_code 9 = .ok (.if_icmp .ne 4, 3) := by decide +kernel
theorem d_Q_paintRow_12 : decode prog_8_method_4_code 12 = .ok (.return_, 1) := by decide +kernel
theorem d_Q_paintRow_13 : decode prog_8_method_4_code 13 = .ok (.aload_n 0, 1) := by decide +kernel
theorem d_Q_paintRow_14 : decode prog_8_method_4_code 14 = .ok (.aload_n 1, 1) := by decide +kernel
theorem d_Q_paintRow_15 : decode prog_8_method_4_code 15 = .ok (.iload_n 2, 1) := by decide +kernel
theorem d_Q_paintRow_16 : decode prog_8_method_4_code 16 = .ok (.invokevirtual 43, 3) := by decide +kernel
theorem d_Q_paintRow_19 : decode prog_8_method_4_code 19 = .ok (.istore 4, 2) := by decide +kernel
theorem d_Q_paintRow_21 : decode prog_8_method_4_code 21 = .ok (.iload_n 3, 1) := by decide +kernel
theorem d_Q_paintRow_22 : decode prog_8_method_4_code 22 = .ok (.ifCond .le 15, 3) := by decide +kernel
theorem d_Q_paintRow_25 : decode prog_8_method_4_code 25 = .ok (.aload_n 1, 1) := by decide +kernel
theorem d_Q_paintRow_26 : decode prog_8_method_4_code 26 = .ok (.iload_n 2, 1) := by decide +kernel
theorem d_Q_paintRow_27 : decode prog_8_method_4_code 27 = .ok (.iload_n 3, 1) := by decide +kernel
theorem d_Q_paintRow_28 : decode prog_8_method_4_code 28 = .ok (.invokevirtual 46, 3) := by decide +kernel
theorem d_Q_paintRow_31 : decode prog_8_method_4_code 31 = .ok (.ifCond .ne 6, 3) := by decide +kernel
theorem d_Q_paintRow_34 : decode prog_8_method_4_code 34 = .ok (.iinc 3 (-1), 3) := by decide +kernel
theorem d_Q_paintRow_37 : decode prog_8_method_4_code 37 = .ok (.aload_n 1, 1) := by decide +kernel
theorem d_Q_paintRow_38 : decode prog_8_method_4_code 38 = .ok (.iload_n 2, 1) := by decide +kernel
theorem d_Q_paintRow_39 : decode prog_8_method_4_code 39 = .ok (.invokestatic 52, 3) := by decide +kernel
theorem d_Q_paintRow_42 : decode prog_8_method_4_code 42 = .ok (.istore 5, 2) := by decide +kernel
theorem d_Q_paintRow_44 : decode prog_8_method_4_code 44 = .ok (.iload_n 3, 1) := by decide +kernel
theorem d_Q_paintRow_45 : decode prog_8_method_4_code 45 = .ok (.iload 5, 2) := by decide +kernel
theorem d_Q_paintRow_47 : decode prog_8_method_4_code 47 = .ok (.invokestatic 55, 3) := by decide +kernel
theorem d_Q_paintRow_50 : decode prog_8_method_4_code 50 = .ok (.istore 6, 2) := by decide +kernel
theorem d_Q_paintRow_52 : decode prog_8_method_4_code 52 = .ok (.iload 4, 2) := by decide +kernel
theorem d_Q_paintRow_54 : decode prog_8_method_4_code 54 = .ok (.iload 6, 2) := by decide +kernel
theorem d_Q_paintRow_56 : decode prog_8_method_4_code 56 = .ok (.isub, 1) := by decide +kernel
theorem d_Q_paintRow_57 : decode prog_8_method_4_code 57 = .ok (.iconst 1, 1) := by decide +kernel
theorem d_Q_paintRow_58 : decode prog_8_method_4_code 58 = .ok (.iadd, 1) := by decide +kernel
theorem d_Q_paintRow_59 : decode prog_8_method_4_code 59 = .ok (.iconst 3, 1) := by decide +kernel
theorem d_Q_paintRow_60 : decode prog_8_method_4_code 60 = .ok (.if_icmp .le 7, 3) := by decide +kernel
theorem d_Q_paintRow_63 : decode prog_8_method_4_code 63 = .ok (.iconst 1, 1) := by decide +kernel
theorem d_Q_paintRow_64 : decode prog_8_method_4_code 64 = .ok (.goto 4, 3) := by decide +kernel
theorem d_Q_paintRow_67 : decode prog_8_method_4_code 67 = .ok (.iconst 0, 1) := by decide +kernel
theorem d_Q_paintRow_68 : decode prog_8_method_4_code 68 = .ok (.istore 7, 2) := by decide +kernel
theorem d_Q_paintRow_70 : decode prog_8_method_4_code 70 = .ok (.iload 7, 2) := by decide +kernel
theorem d_Q_paintRow_72 : decode prog_8_method_4_code 72 = .ok (.ifCond .eq 10, 3) := by decide +kernel
theorem d_Q_paintRow_75 : decode prog_8_method_4_code 75 = .ok (.iload 5, 2) := by decide +kernel
theorem d_Q_paintRow_77 : decode prog_8_method_4_code 77 = .ok (.iconst 1, 1) := by decide +kernel
theorem d_Q_paintRow_78 : decode prog_8_method_4_code 78 = .ok (.isub, 1) := by decide +kernel
theorem d_Q_paintRow_79 : decode prog_8_method_4_code 79 = .ok (.goto 5, 3) := by decide +kernel
theorem d_Q_paintRow_82 : decode prog_8_method_4_code 82 = .ok (.iload 4, 2) := by decide +kernel
theorem d_Q_paintRow_84 : decode prog_8_method_4_code 84 = .ok (.istore 8, 2) := by decide +kernel
theorem d_Q_paintRow_86 : decode prog_8_method_4_code 86 = .ok (.iload_n 3, 1) := by decide +kernel
theorem d_Q_paintRow_87 : decode prog_8_method_4_code 87 = .ok (.istore 9, 2) := by decide +kernel
theorem d_Q_paintRow_89 : decode prog_8_method_4_code 89 = .ok (.iload 9, 2) := by decide +kernel
theorem d_Q_paintRow_91 : decode prog_8_method_4_code 91 = .ok (.iload 8, 2) := by decide +kernel
theorem d_Q_paintRow_93 : decode prog_8_method_4_code 93 = .ok (.if_icmp .gt 40, 3) := by decide +kernel
theorem d_Q_paintRow_96 : decode prog_8_method_4_code 96 = .ok (.aload_n 1, 1) := by decide +kernel
theorem d_Q_paintRow_97 : decode prog_8_method_4_code 97 = .ok (.iload_n 2, 1) := by decide +kernel
theorem d_Q_paintRow_98 : decode prog_8_method_4_code 98 = .ok (.iload 9, 2) := by decide +kernel
theorem d_Q_paintRow_100 : decode prog_8_method_4_code 100 = .ok (.invokevirtual 46, 3) := by decide +kernel
theorem d_Q_paintRow_103 : decode prog_8_method_4_code 103 = .ok (.ifCond .eq 24, 3) := by decide +kernel
theorem d_Q_paintRow_106 : decode prog_8_method_4_code 106 = .ok (.aload_n 0, 1) := by decide +kernel
theorem d_Q_paintRow_107 : decode prog_8_method_4_code 107 = .ok (.iload_n 2, 1) := by decide +kernel
theorem d_Q_paintRow_108 : decode prog_8_method_4_code 108 = .ok (.iload 9, 2) := by decide +kernel
theorem d_Q_paintRow_110 : decode prog_8_method_4_code 110 = .ok (.aload_n 1, 1) := by decide +kernel
theorem d_Q_paintRow_111 : decode prog_8_method_4_code 111 = .ok (.iload_n 2, 1) := by decide +kernel
theorem d_Q_paintRow_112 : decode prog_8_method_4_code 112 = .ok (.iload 9, 2) := by decide +kernel
theorem d_Q_paintRow_114 : decode prog_8_method_4_code 114 = .ok (.invokevirtual 46, 3) := by decide +kernel
theorem d_Q_paintRow_117 : decode prog_8_method_4_code 117 = .ok (.aload_n 1, 1) := by decide +kernel
theorem d_Q_paintRow_118 : decode prog_8_method_4_code 118 = .ok (.iload_n 2, 1) := by decide +kernel
theorem d_Q_paintRow_119 : decode prog_8_method_4_code 119 = .ok (.iload 9, 2) := by decide +kernel
theorem d_Q_paintRow_121 : decode prog_8_method_4_code 121 = .ok (.invokevirtual 60, 3) := by decide +kernel
theorem d_Q_paintRow_124 : decode prog_8_method_4_code 124 = .ok (.invokevirtual 63, 3) := by decide +kernel
theorem d_Q_paintRow_127 : decode prog_8_method_4_code 127 = .ok (.iinc 9 1, 3) := by decide +kernel
theorem d_Q_paintRow_130 : decode prog_8_method_4_code 130 = .ok (.goto (-41), 3) := by decide +kernel
theorem d_Q_paintRow_133 : decode prog_8_method_4_code 133 = .ok (.iload 7, 2) := by decide +kernel
theorem d_Q_paintRow_135 : decode prog_8_method_4_code 135 = .ok (.ifCond .eq 25, 3) := by decide +kernel
theorem d_Q_paintRow_138 : decode prog_8_method_4_code 138 = .ok (.aload_n 0, 1) := by decide +kernel
theorem d_Q_paintRow_139 : decode prog_8_method_4_code 139 = .ok (.iload_n 2, 1) := by decide +kernel
theorem d_Q_paintRow_140 : decode prog_8_method_4_code 140 = .ok (.iload 6, 2) := by decide +kernel
theorem d_Q_paintRow_142 : decode prog_8_method_4_code 142 = .ok (.invokevirtual 67, 3) := by decide +kernel
theorem d_Q_paintRow_145 : decode prog_8_method_4_code 145 = .ok (.aload_n 0, 1) := by decide +kernel
theorem d_Q_paintRow_146 : decode prog_8_method_4_code 146 = .ok (.iconst (-1), 1) := by decide +kernel
theorem d_Q_paintRow_147 : decode prog_8_method_4_code 147 = .ok (.iconst (-1), 1) := by decide +kernel
theorem d_Q_paintRow_148 : decode prog_8_method_4_code 148 = .ok (.bipush 75, 2) := by decide +kernel
theorem d_Q_paintRow_150 : decode prog_8_method_4_code 150 = .ok (.invokevirtual 32, 3) := by decide +kernel
theorem d_Q_paintRow_153 : decode prog_8_method_4_code 153 = .ok (.aload_n 0, 1) := by decide +kernel
theorem d_Q_paintRow_154 : decode prog_8_method_4_code 154 = .ok (.getfield 20, 3) := by decide +kernel
theorem d_Q_paintRow_157 : decode prog_8_method_4_code 157 = .ok (.invokevirtual 70, 3) := by decide +kernel
theorem d_Q_paintRow_160 : decode prog_8_method_4_code 160 = .ok (.return_, 1) := by decide +kernel
theorem d_Q_differs_0 : decode prog_8_method_5_code 0 = .ok (.aload_n 1, 1) := by decide +kernel
theorem d_Q_differs_1 : decode prog_8_method_5_code 1 = .ok (.iload_n 2, 1) := by decide +kernel
theorem d_Q_differs_2 : decode prog_8_method_5_code 2 = .ok (.iload_n 3, 1) := by decide +kernel
theorem d_Q_differs_3 : decode prog_8_method_5_code 3 = .ok (.invokevirtual 46, 3) := by decide +kernel
theorem d_Q_differs_6 : decode prog_8_method_5_code 6 = .ok (.aload_n 0, 1) := by decide +kernel
theorem d_Q_differs_7 : decode prog_8_method_5_code 7 = .ok (.getfield 20, 3) := by decide +kernel
theorem d_Q_differs_10 : decode prog_8_method_5_code 10 = .ok (.getfield 73, 3) := by decide +kernel
theorem d_Q_differs_13 : decode prog_8_method_5_code 13 = .ok (.iload_n 2, 1) := by decide +kernel
theorem d_Q_differs_14 : decode prog_8_method_5_code 14 = .ok (.iload_n 3, 1) := by decide +kernel
theorem d_Q_differs_15 : decode prog_8_method_5_code 15 = .ok (.invokevirtual 46, 3) := by decide +kernel
theorem d_Q_differs_18 : decode prog_8_method_5_code 18 = .ok (.if_icmp .ne 24, 3) := by decide +kernel
theorem d_Q_differs_21 : decode prog_8_method_5_code 21 = .ok (.aload_n 1, 1) := by decide +kernel
theorem d_Q_differs_22 : decode prog_8_method_5_code 22 = .ok (.iload_n 2, 1) := by decide +kernel
theorem d_Q_differs_23 : decode prog_8_method_5_code 23 = .ok (.iload_n 3, 1) := by decide +kernel
theorem d_Q_differs_24 : decode prog_8_method_5_code 24 = .ok (.invokevirtual 60, 3) := by decide +kernel
theorem d_Q_differs_27 : decode prog_8_method_5_code 27 = .ok (.aload_n 0, 1) := by decide +kernel
theorem d_Q_differs_28 : decode prog_8_method_5_code 28 = .ok (.getfield 20, 3) := by decide +kernel
theorem d_Q_differs_31 : decode prog_8_method_5_code 31 = .ok (.getfield 73, 3) := by decide +kernel
theorem d_Q_differs_34 : decode prog_8_method_5_code 34 = .ok (.iload_n 2, 1) := by decide +kernel
theorem d_Q_differs_35 : decode prog_8_method_5_code 35 = .ok (.iload_n 3, 1) := by decide +kernel
theorem d_Q_differs_36 : decode prog_8_method_5_code 36 = .ok (.invokevirtual 60, 3) := by decide +kernel
theorem d_Q_differs_39 : decode prog_8_method_5_code 39 = .ok (.if_icmp .eq 7, 3) := by decide +kernel
theorem d_Q_differs_42 : decode prog_8_method_5_code 42 = .ok (.iconst 1, 1) := by decide +kernel
theorem d_Q_differs_43 : decode prog_8_method_5_code 43 = .ok (.goto 4, 3) := by decide +kernel
theorem d_Q_differs_46 : decode prog_8_method_5_code 46 = .ok (.iconst 0, 1) := by decide +kernel
theorem d_Q_differs_47 : decode prog_8_method_5_code 47 = .ok (.ireturn, 1) := by decide +kernel
theorem d_Q_firstDifference_0 : decode prog_8_method_6_code 0 = .ok (.iconst 0, 1) := by decide +kernel
theorem d_Q_firstDifference_1 : decode prog_8_method_6_code 1 = .ok (.istore_n 3, 1) := by decide +kernel
theorem d_Q_firstDifference_2 : decode prog_8_method_6_code 2 = .ok (.iload_n 3, 1) := by decide +kernel
theorem d_Q_firstDifference_3 : decode prog_8_method_6_code 3 = .ok (.aload_n 1, 1) := by decide +kernel
theorem d_Q_firstDifference_4 : decode prog_8_method_6_code 4 = .ok (.getfield 77, 3) := by decide +kernel
theorem d_Q_firstDifference_7 : decode prog_8_method_6_code 7 = .ok (.if_icmp .ge 21, 3) := by decide +kernel
theorem d_Q_firstDifference_10 : decode prog_8_method_6_code 10 = .ok (.aload_n 0, 1) := by decide +kernel
theorem d_Q_firstDifference_11 : decode prog_8_method_6_code 11 = .ok (.aload_n 1, 1) := by decide +kernel
theorem d_Q_firstDifference_12 : decode prog_8_method_6_code 12 = .ok (.iload_n 2, 1) := by decide +kernel
theorem d_Q_firstDifference_13 : decode prog_8_method_6_code 13 = .ok (.iload_n 3, 1) := by decide +kernel
theorem d_Q_firstDifference_14 : decode prog_8_method_6_code 14 = .ok (.invokevirtual 80, 3) := by decide +kernel
theorem d_Q_firstDifference_17 : decode prog_8_method_6_code 17 = .ok (.ifCond .eq 5, 3) := by decide +kernel
theorem d_Q_firstDifference_20 : decode prog_8_method_6_code 20 = .ok (.iload_n 3, 1) := by decide +kernel
theorem d_Q_firstDifference_21 : decode prog_8_method_6_code 21 = .ok (.ireturn, 1) := by decide +kernel
theorem d_Q_firstDifference_22 : decode prog_8_method_6_code 22 = .ok (.iinc 3 1, 3) := by decide +kernel
theorem d_Q_firstDifference_25 : decode prog_8_method_6_code 25 = .ok (.goto (-23), 3) := by decide +kernel
theorem d_Q_firstDifference_28 : decode prog_8_method_6_code 28 = .ok (.iconst (-1), 1) := by decide +kernel
theorem d_Q_firstDifference_29 : decode prog_8_method_6_code 29 = .ok (.ireturn, 1) := by decide +kernel
theorem d_Q_lastDifference_0 : decode prog_8_method_7_code 0 = .ok (.aload_n 1, 1) := by decide +kernel
theorem d_Q_lastDifference_1 : decode prog_8_method_7_code 1 = .ok (.getfield 77, 3) := by decide +kernel
theorem d_Q_lastDifference_4 : decode prog_8_method_7_code 4 = .ok (.iconst 1, 1) := by decide +kernel
theorem d_Q_lastDifference_5 : decode prog_8_method_7_code 5 = .ok (.isub, 1) := by decide +kernel
theorem d_Q_lastDifference_6 : decode prog_8_method_7_code 6 = .ok (.istore_n 3, 1) := by decide +kernel
theorem d_Q_lastDifference_7 : decode prog_8_method_7_code 7 = .ok (.iload_n 3, 1) := by decide +kernel
theorem d_Q_lastDifference_8 : decode prog_8_method_7_code 8 = .ok (.ifCond .lt 21, 3) := by decide +kernel
theorem d_Q_lastDifference_11 : decode prog_8_method_7_code 11 = .ok (.aload_n 0, 1) := by decide +kernel
theorem d_Q_lastDifference_12 : decode prog_8_method_7_code 12 = .ok (.aload_n 1, 1) := by decide +kernel
theorem d_Q_lastDifference_13 : decode prog_8_method_7_code 13 = .ok (.iload_n 2, 1) := by decide +kernel
theorem d_Q_lastDifference_14 : decode prog_8_method_7_code 14 = .ok (.iload_n 3, 1) := by decide +kernel
theorem d_Q_lastDifference_15 : decode prog_8_method_7_code 15 = .ok (.invokevirtual 80, 3) := by decide +kernel
theorem d_Q_lastDifference_18 : decode prog_8_method_7_code 18 = .ok (.ifCond .eq 5, 3) := by decide +kernel
theorem d_Q_lastDifference_21 : decode prog_8_method_7_code 21 = .ok (.iload_n 3, 1) := by decide +kernel
theorem d_Q_lastDifference_22 : decode prog_8_method_7_code 22 = .ok (.ireturn, 1) := by decide +kernel
theorem d_Q_lastDifference_23 : decode prog_8_method_7_code 23 = .ok (.iinc 3 (-1), 3) := by decide +kernel
theorem d_Q_lastDifference_26 : decode prog_8_method_7_code 26 = .ok (.goto (-19), 3) := by decide +kernel
theorem d_Q_lastDifference_29 : decode prog_8_method_7_code 29 = .ok (.iconst (-1), 1) := by decide +kernel
theorem d_Q_lastDifference_30 : decode prog_8_method_7_code 30 = .ok (.ireturn, 1) := by decide +kernel
theorem d_Q_blankBeginning_0 : decode prog_8_method_8_code 0 = .ok (.aload_n 0, 1) := by decide +kernel
theorem d_Q_blankBeginning_1 : decode prog_8_method_8_code 1 = .ok (.getfield 77, 3) := by decide +kernel
theorem d_Q_blankBeginning_4 : decode prog_8_method_8_code 4 = .ok (.istore_n 2, 1) := by decide +kernel
theorem d_Q_blankBeginning_5 : decode prog_8_method_8_code 5 = .ok (.iload_n 2, 1) := by decide +kernel
theorem d_Q_blankBeginning_6 : decode prog_8_method_8_code 6 = .ok (.ifCond .le 20, 3) := by decide +kernel
theorem d_Q_blankBeginning_9 : decode prog_8_method_8_code 9 = .ok (.aload_n 0, 1) := by decide +kernel
theorem d_Q_blankBeginning_10 : decode prog_8_method_8_code 10 = .ok (.iload_n 1, 1) := by decide +kernel
theorem d_Q_blankBeginning_11 : decode prog_8_method_8_code 11 = .ok (.iload_n 2, 1) := by decide +kernel
theorem d_Q_blankBeginning_12 : decode prog_8_method_8_code 12 = .ok (.iconst 1, 1) := by decide +kernel
theorem d_Q_blankBeginning_13 : decode prog_8_method_8_code 13 = .ok (.isub, 1) := by decide +kernel
theorem d_Q_blankBeginning_14 : decode prog_8_method_8_code 14 = .ok (.invokevirtual 84, 3) := by decide +kernel
theorem d_Q_blankBeginning_17 : decode prog_8_method_8_code 17 = .ok (.ifCond .eq 9, 3) := by decide +kernel
theorem d_Q_blankBeginning_20 : decode prog_8_method_8_code 20 = .ok (.iinc 2 (-1), 3) := by decide +kernel
theorem d_Q_blankBeginning_23 : decode prog_8_method_8_code 23 = .ok (.goto (-18), 3) := by decide +kernel
theorem d_Q_blankBeginning_26 : decode prog_8_method_8_code 26 = .ok (.iload_n 2, 1) := by decide +kernel
theorem d_Q_blankBeginning_27 : decode prog_8_method_8_code 27 = .ok (.ireturn, 1) := by decide +kernel
theorem d_Q_sendCluster_0 : decode prog_8_method_9_code 0 = .ok (.iload_n 3, 1) := by decide +kernel
theorem d_Q_sendCluster_1 : decode prog_8_method_9_code 1 = .ok (.invokestatic 88, 3) := by decide +kernel
theorem d_Q_sendCluster_4 : decode prog_8_method_9_code 4 = .ok (.istore 5, 2) := by decide +kernel
theorem d_Q_sendCluster_6 : decode prog_8_method_9_code 6 = .ok (.iload 5, 2) := by decide +kernel
theorem d_Q_sendCluster_8 : decode prog_8_method_9_code 8 = .ok (.invokestatic 94, 3) := by decide +kernel
theorem d_Q_sendCluster_11 : decode prog_8_method_9_code 11 = .ok (.ifCond .eq 12, 3) := by decide +kernel
theorem d_Q_sendCluster_14 : decode prog_8_method_9_code 14 = .ok (.aload_n 0, 1) := by decide +kernel
theorem d_Q_sendCluster_15 : decode prog_8_method_9_code 15 = .ok (.iload_n 1, 1) := by decide +kernel
theorem d_Q_sendCluster_16 : decode prog_8_method_9_code 16 = .ok (.iload_n 2, 1) := by decide +kernel
theorem d_Q_sendCluster_17 : decode prog_8_method_9_code 17 = .ok (.invokevirtual 98, 3) := by decide +kernel
theorem d_Q_sendCluster_20 : decode prog_8_method_9_code 20 = .ok (.goto 9, 3) := by decide +kernel
theorem d_Q_sendCluster_23 : decode prog_8_method_9_code 23 = .ok (.aload_n 0, 1) := by decide +kernel
theorem d_Q_sendCluster_24 : decode prog_8_method_9_code 24 = .ok (.iload_n 1, 1) := by decide +kernel
theorem d_Q_sendCluster_25 : decode prog_8_method_9_code 25 = .ok (.iload_n 2, 1) := by decide +kernel
theorem d_Q_sendCluster_26 : decode prog_8_method_9_code 26 = .ok (.invokevirtual 67, 3) := by decide +kernel
theorem d_Q_sendCluster_29 : decode prog_8_method_9_code 29 = .ok (.aload_n 0, 1) := by decide +kernel
theorem d_Q_sendCluster_30 : decode prog_8_method_9_code 30 = .ok (.getfield 20, 3) := by decide +kernel
theorem d_Q_sendCluster_33 : decode prog_8_method_9_code 33 = .ok (.getfield 101, 3) := by decide +kernel
theorem d_Q_sendCluster_36 : decode prog_8_method_9_code 36 = .ok (.iload 4, 2) := by decide +kernel
theorem d_Q_sendCluster_38 : decode prog_8_method_9_code 38 = .ok (.if_icmp .eq 9, 3) := by decide +kernel
theorem d_Q_sendCluster_41 : decode prog_8_method_9_code 41 = .ok (.aload_n 0, 1) := by decide +kernel
theorem d_Q_sendCluster_42 : decode prog_8_method_9_code 42 = .ok (.iload 4, 2) := by decide +kernel
theorem d_Q_sendCluster_44 : decode prog_8_method_9_code 44 = .ok (.invokevirtual 28, 3) := by decide +kernel
theorem d_Q_sendCluster_47 : decode prog_8_method_9_code 47 = .ok (.aload_n 0, 1) := by decide +kernel
theorem d_Q_sendCluster_48 : decode prog_8_method_9_code 48 = .ok (.iload 5, 2) := by decide +kernel
theorem d_Q_sendCluster_50 : decode prog_8_method_9_code 50 = .ok (.invokevirtual 104, 3) := by decide +kernel
theorem d_Q_sendCluster_53 : decode prog_8_method_9_code 53 = .ok (.aload_n 0, 1) := by decide +kernel
theorem d_Q_sendCluster_54 : decode prog_8_method_9_code 54 = .ok (.iload_n 3, 1) := by decide +kernel
theorem d_Q_sendCluster_55 : decode prog_8_method_9_code 55 = .ok (.invokestatic 107, 3) := by decide +kernel
theorem d_Q_sendCluster_58 : decode prog_8_method_9_code 58 = .ok (.invokevirtual 104, 3) := by decide +kernel
theorem d_Q_sendCluster_61 : decode prog_8_method_9_code 61 = .ok (.aload_n 0, 1) := by decide +kernel
theorem d_Q_sendCluster_62 : decode prog_8_method_9_code 62 = .ok (.iload_n 3, 1) := by decide +kernel
theorem d_Q_sendCluster_63 : decode prog_8_method_9_code 63 = .ok (.invokestatic 110, 3) := by decide +kernel
theorem d_Q_sendCluster_66 : decode prog_8_method_9_code 66 = .ok (.invokevirtual 104, 3) := by decide +kernel
theorem d_Q_sendCluster_69 : decode prog_8_method_9_code 69 = .ok (.return_, 1) := by decide +kernel
theorem d_Q_makePlaceRight_0 : decode prog_8_method_10_code 0 = .ok (.aload_n 0, 1) := by decide +kernel
theorem d_Q_makePlaceRight_1 : decode prog_8_method_10_code 1 = .ok (.getfield 20, 3) := by decide +kernel
theorem d_Q_makePlaceRight_4 : decode prog_8_method_10_code 4 = .ok (.getfield 113, 3) := by decide +kernel
theorem d_Q_makePlaceRight_7 : decode prog_8_method_10_code 7 = .ok (.iload_n 1, 1) := by decide +kernel
theorem d_Q_makePlaceRight_8 : decode prog_8_method_10_code 8 = .ok (.if_icmp .ne 7, 3) := by decide +kernel
theorem d_Q_makePlaceRight_11 : decode prog_8_method_10_code 11 = .ok (.iconst 1, 1) := by decide +kernel
theorem d_Q_makePlaceRight_12 : decode prog_8_method_10_code 12 = .ok (.goto 4, 3) := by decide +kernel
theorem d_Q_makePlaceRight_15 : decode prog_8_method_10_code 15 = .ok (.iconst 0, 1) := by decide +kernel
theorem d_Q_makePlaceRight_16 : decode prog_8_method_10_code 16 = .ok (.istore_n 3, 1) := by decide +kernel
theorem d_Q_makePlaceRight_17 : decode prog_8_method_10_code 17 = .ok (.iload_n 3, 1) := by decide +kernel
theorem d_Q_makePlaceRight_18 : decode prog_8_method_10_code 18 = .ok (.ifCond .eq 25, 3) := by decide +kernel
theorem d_Q_makePlaceRight_21 : decode prog_8_method_10_code 21 = .ok (.aload_n 0, 1) := by decide +kernel
theorem d_Q_makePlaceRight_22 : decode prog_8_method_10_code 22 = .ok (.getfield 20, 3) := by decide +kernel
theorem d_Q_makePlaceRight_25 : decode prog_8_method_10_code 25 = .ok (.getfield 116, 3) := by decide +kernel
theorem d_Q_makePlaceRight_28 : decode prog_8_method_10_code 28 = .ok (.iload_n 2, 1) := by decide +kernel
theorem d_Q_makePlaceRight_29 : decode prog_8_method_10_code 29 = .ok (.if_icmp .ne 14, 3) := by decide +kernel
theorem d_Q_makePlaceRight_32 : decode prog_8_method_10_code 32 = .ok (.aload_n 0, 1) := by decide +kernel
theorem d_Q_makePlaceRight_33 : decode prog_8_method_10_code 33 = .ok (.getfield 20, 3) := by decide +kernel
theorem d_Q_makePlaceRight_36 : decode prog_8_method_10_code 36 = .ok (.getfield 119, 3) := by decide +kernel
theorem d_Q_makePlaceRight_39 : decode prog_8_method_10_code 39 = .ok (.ifCond .ne 4, 3) := by decide +kernel
theorem d_Q_makePlaceRight_42 : decode prog_8_method_10_code 42 = .ok (.return_, 1) := by decide +kernel
theorem d_Q_makePlaceRight_43 : decode prog_8_method_10_code 43 = .ok (.iload_n 3, 1) := by decide +kernel
theorem d_Q_makePlaceRight_44 : decode prog_8_method_10_code 44 = .ok (.ifCond .eq 66, 3) := by decide +kernel
theorem d_Q_makePlaceRight_47 : decode prog_8_method_10_code 47 = .ok (.iload_n 2, 1) := by decide +kernel
theorem d_Q_makePlaceRight_48 : decode prog_8_method_10_code 48 = .ok (.aload_n 0, 1) := by decide +kernel
theorem d_Q_makePlaceRight_49 : decode prog_8_method_10_code 49 = .ok (.getfield 20, 3) := by decide +kernel
theorem d_Q_makePlaceRight_52 : decode prog_8_method_10_code 52 = .ok (.getfield 116, 3) := by decide +kernel
theorem d_Q_makePlaceRight_55 : decode prog_8_method_10_code 55 = .ok (.if_icmp .le 55, 3) := by decide +kernel
theorem d_Q_makePlaceRight_58 : decode prog_8_method_10_code 58 = .ok (.aload_n 0, 1) := by decide +kernel
theorem d_Q_makePlaceRight_59 : decode prog_8_method_10_code 59 = .ok (.getfield 20, 3) := by decide +kernel
theorem d_Q_makePlaceRight_62 : decode prog_8_method_10_code 62 = .ok (.getfield 119, 3) := by decide +kernel
theorem d_Q_makePlaceRight_65 : decode prog_8_method_10_code 65 = .ok (.ifCond .ne 45, 3) := by decide +kernel
theorem d_Q_makePlaceRight_68 : decode prog_8_method_10_code 68 = .ok (.iload_n 2, 1) := by decide +kernel
theorem d_Q_makePlaceRight_69 : decode prog_8_method_10_code 69 = .ok (.aload_n 0, 1) := by decide +kernel
theorem d_Q_makePlaceRight_70 : decode prog_8_method_10_code 70 = .ok (.getfield 20, 3) := by decide +kernel
theorem d_Q_makePlaceRight_73 : decode prog_8_method_10_code 73 = .ok (.getfield 116, 3) := by decide +kernel
theorem d_Q_makePlaceRight_76 : decode prog_8_method_10_code 76 = .ok (.isub, 1) := by decide +kernel
theorem d_Q_makePlaceRight_77 : decode prog_8_method_10_code 77 = .ok (.istore 4, 2) := by decide +kernel
theorem d_Q_makePlaceRight_79 : decode prog_8_method_10_code 79 = .ok (.aload_n 0, 1) := by decide +kernel
theorem d_Q_makePlaceRight_80 : decode prog_8_method_10_code 80 = .ok (.iload 4, 2) := by decide +kernel
theorem d_Q_makePlaceRight_82 : decode prog_8_method_10_code 82 = .ok (.iconst 1, 1) := by decide +kernel
theorem d_Q_makePlaceRight_83 : decode prog_8_method_10_code 83 = .ok (.if_icmp .ne 7, 3) := by decide +kernel
theorem d_Q_makePlaceRight_86 : decode prog_8_method_10_code 86 = .ok (.iconst (-1), 1) := by decide +kernel
theorem d_Q_makePlaceRight_87 : decode prog_8_method_10_code 87 = .ok (.goto 5, 3) := by decide +kernel
theorem d_Q_makePlaceRight_90 : decode prog_8_method_10_code 90 = .ok (.iload 4, 2) := by decide +kernel
theorem d_Q_makePlaceRight_92 : decode prog_8_method_10_code 92 = .ok (.iconst (-1), 1) := by decide +kernel
theorem d_Q_makePlaceRight_93 : decode prog_8_method_10_code 93 = .ok (.bipush 67, 2) := by decide +kernel
theorem d_Q_makePlaceRight_95 : decode prog_8_method_10_code 95 = .ok (.invokevirtual 32, 3) := by decide +kernel
theorem d_Q_makePlaceRight_98 : decode prog_8_method_10_code 98 = .ok (.aload_n 0, 1) := by decide +kernel
theorem d_Q_makePlaceRight_99 : decode prog_8_method_10_code 99 = .ok (.getfield 20, 3) := by decide +kernel
theorem d_Q_makePlaceRight_102 : decode prog_8_method_10_code 102 = .ok (.iload_n 1, 1) := by decide +kernel
theorem d_Q_makePlaceRight_103 : decode prog_8_method_10_code 103 = .ok (.iload_n 2, 1) := by decide +kernel
theorem d_Q_makePlaceRight_104 : decode prog_8_method_10_code 104 = .ok (.invokevirtual 123, 3) := by decide +kernel
theorem d_Q_makePlaceRight_107 : decode prog_8_method_10_code 107 = .ok (.goto 76, 3) := by decide +kernel
theorem d_Q_makePlaceRight_110 : decode prog_8_method_10_code 110 = .ok (.iload_n 2, 1) := by decide +kernel
theorem d_Q_makePlaceRight_111 : decode prog_8_method_10_code 111 = .ok (.ifCond .ne 25, 3) := by decide +kernel
theorem d_Q_makePlaceRight_114 : decode prog_8_method_10_code 114 = .ok (.iload_n 3, 1) := by decide +kernel
theorem d_Q_makePlaceRight_115 : decode prog_8_method_10_code 115 = .ok (.ifCond .eq 21, 3) := by decide +kernel
theorem d_Q_makePlaceRight_118 : decode prog_8_method_10_code 118 = .ok (.aload_n 0, 1) := by decide +kernel
theorem d_Q_makePlaceRight_119 : decode prog_8_method_10_code 119 = .ok (.bipush 13, 2) := by decide +kernel
theorem d_Q_makePlaceRight_121 : decode prog_8_method_10_code 121 = .ok (.invokevirtual 126, 3) := by decide +kernel
theorem d_Q_makePlaceRight_124 : decode prog_8_method_10_code 124 = .ok (.aload_n 0, 1) := by decide +kernel
theorem d_Q_makePlaceRight_125 : decode prog_8_method_10_code 125 = .ok (.getfield 20, 3) := by decide +kernel
theorem d_Q_makePlaceRight_128 : decode prog_8_method_10_code 128 = .ok (.iload_n 1, 1) := by decide +kernel
theorem d_Q_makePlaceRight_129 : decode prog_8_method_10_code 129 = .ok (.iconst 0, 1) := by decide +kernel
theorem d_Q_makePlaceRight_130 : decode prog_8_method_10_code 130 = .ok (.invokevirtual 123, 3) := by decide +kernel
theorem d_Q_makePlaceRight_133 : decode prog_8_method_10_code 133 = .ok (.goto 50, 3) := by decide +kernel
theorem d_Q_makePlaceRight_136 : decode prog_8_method_10_code 136 = .ok (.iload_n 2, 1) := by decide +kernel
theorem d_Q_makePlaceRight_137 : decode prog_8_method_10_code 137 = .ok (.ifCond .ne 40, 3) := by decide +kernel
theorem d_Q_makePlaceRight_140 : decode prog_8_method_10_code 140 = .ok (.iload_n 1, 1) := by decide +kernel
theorem d_Q_makePlaceRight_141 : decode prog_8_method_10_code 141 = .ok (.aload_n 0, 1) := by decide +kernel
theorem d_Q_makePlaceRight_142 : decode prog_8_method_10_code 142 = .ok (.getfield 20, 3) := by decide +kernel
theorem d_Q_makePlaceRight_145 : decode prog_8_method_10_code 145 = .ok (.getfield 113, 3) := by decide +kernel
theorem d_Q_makePlaceRight_148 : decode prog_8_method_10_code 148 = .ok (.iconst 1, 1) := by decide +kernel
theorem d_Q_makePlaceRight_149 : decode prog_8_method_10_code 149 = .ok (.iadd, 1) := by decide +kernel
theorem d_Q_makePlaceRight_150 : decode prog_8_method_10_code 150 = .ok (.if_icmp .ne 27, 3) := by decide +kernel
theorem d_Q_makePlaceRight_153 : decode prog_8_method_10_code 153 = .ok (.aload_n 0, 1) := by decide +kernel
theorem d_Q_makePlaceRight_154 : decode prog_8_method_10_code 154 = .ok (.bipush 13, 2) := by decide +kernel
theorem d_Q_makePlaceRight_156 : decode prog_8_method_10_code 156 = .ok (.invokevirtual 126, 3) := by decide +kernel
theorem d_Q_makePlaceRight_159 : decode prog_8_method_10_code 159 = .ok (.aload_n 0, 1) := by decide +kernel
theorem d_Q_makePlaceRight_160 : decode prog_8_method_10_code 160 = .ok (.bipush 10, 2) := by decide +kernel
theorem d_Q_makePlaceRight_162 : decode prog_8_method_10_code 162 = .ok (.invokevirtual 126, 3) := by decide +kernel
theorem d_Q_makePlaceRight_165 : decode prog_8_method_10_code 165 = .ok (.aload_n 0, 1) := by decide +kernel
theorem d_Q_makePlaceRight_166 : decode prog_8_method_10_code 166 = .ok (.getfield 20, 3) := by decide +kernel
theorem d_Q_makePlaceRight_169 : decode prog_8_method_10_code 169 = .ok (.iload_n 1, 1) := by decide +kernel
theorem d_Q_makePlaceRight_170 : decode prog_8_method_10_code 170 = .ok (.iconst 0, 1) := by decide +kernel
theorem d_Q_makePlaceRight_171 : decode prog_8_method_10_code 171 = .ok (.invokevirtual 123, 3) := by decide +kernel
theorem d_Q_makePlaceRight_174 : decode prog_8_method_10_code 174 = .ok (.goto 9, 3) := by decide +kernel
theorem d_Q_makePlaceRight_177 : decode prog_8_method_10_code 177 = .ok (.aload_n 0, 1) := by decide +kernel
theorem d_Q_makePlaceRight_178 : decode prog_8_method_10_code 178 = .ok (.iload_n 1, 1) := by decide +kernel
theorem d_Q_makePlaceRight_179 : decode prog_8_method_10_code 179 = .ok (.iload_n 2, 1) := by decide +kernel
theorem d_Q_makePlaceRight_180 : decode prog_8_method_10_code 180 = .ok (.invokevirtual 98, 3) := by decide +kernel
theorem d_Q_makePlaceRight_183 : decode prog_8_method_10_code 183 = .ok (.return_, 1) := by decide +kernel
theorem d_Q_sendPlace_0 : decode prog_8_method_11_code 0 = .ok (.aload_n 0, 1) := by decide +kernel
theorem d_Q_sendPlace_1 : decode prog_8_method_11_code 1 = .ok (.iload_n 1, 1) := by decide +kernel
theorem d_Q_sendPlace_2 : decode prog_8_method_11_code 2 = .ok (.iconst 1, 1) := by decide +kernel
theorem d_Q_sendPlace_3 : decode prog_8_method_11_code 3 = .ok (.iadd, 1) := by decide +kernel
theorem d_Q_sendPlace_4 : decode prog_8_method_11_code 4 = .ok (.iload_n 2, 1) := by decide +kernel
theorem d_Q_sendPlace_5 : decode prog_8_method_11_code 5 = .ok (.iconst 1, 1) := by decide +kernel
theorem d_Q_sendPlace_6 : decode prog_8_method_11_code 6 = .ok (.iadd, 1) := by decide +kernel
theorem d_Q_sendPlace_7 : decode prog_8_method_11_code 7 = .ok (.bipush 72, 2) := by decide +kernel
theorem d_Q_sendPlace_9 : decode prog_8_method_11_code 9 = .ok (.invokevirtual 32, 3) := by decide +kernel
theorem d_Q_sendPlace_12 : decode prog_8_method_11_code 12 = .ok (.aload_n 0, 1) := by decide +kernel
theorem d_Q_sendPlace_13 : decode prog_8_method_11_code 13 = .ok (.getfield 20, 3) := by decide +kernel
theorem d_Q_sendPlace_16 : decode prog_8_method_11_code 16 = .ok (.iload_n 1, 1) := by decide +kernel
theorem d_Q_sendPlace_17 : decode prog_8_method_11_code 17 = .ok (.iload_n 2, 1) := by decide +kernel
theorem d_Q_sendPlace_18 : decode prog_8_method_11_code 18 = .ok (.invokevirtual 123, 3) := by decide +kernel
theorem d_Q_sendPlace_21 : decode prog_8_method_11_code 21 = .ok (.return_, 1) := by decide +kernel
theorem d_Q_sendLook_0 : decode prog_8_method_12_code 0 = .ok (.iload_n 1, 1) := by decide +kernel
theorem d_Q_sendLook_1 : decode prog_8_method_12_code 1 = .ok (.iconst 1, 1) := by decide +kernel
theorem d_Q_sendLook_2 : decode prog_8_method_12_code 2 = .ok (.if_icmp .ne 8, 3) := by decide +kernel
theorem d_Q_sendLook_5 : decode prog_8_method_12_code 5 = .ok (.bipush 7, 2) := by decide +kernel
theorem d_Q_sendLook_7 : decode prog_8_method_12_code 7 = .ok (.goto 13, 3) := by decide +kernel
theorem d_Q_sendLook_10 : decode prog_8_method_12_code 10 = .ok (.iload_n 1, 1) := by decide +kernel
theorem d_Q_sendLook_11 : decode prog_8_method_12_code 11 = .ok (.iconst 2, 1) := by decide +kernel
theorem d_Q_sendLook_12 : decode prog_8_method_12_code 12 = .ok (.if_icmp .ne 7, 3) := by decide +kernel
theorem d_Q_sendLook_15 : decode prog_8_method_12_code 15 = .ok (.iconst 4, 1) := by decide +kernel
theorem d_Q_sendLook_16 : decode prog_8_method_12_code 16 = .ok (.goto 4, 3) := by decide +kernel
theorem d_Q_sendLook_19 : decode prog_8_method_12_code 19 = .ok (.iconst (-1), 1) := by decide +kernel
theorem d_Q_sendLook_20 : decode prog_8_method_12_code 20 = .ok (.istore_n 2, 1) := by decide +kernel
theorem d_Q_sendLook_21 : decode prog_8_method_12_code 21 = .ok (.aload_n 0, 1) := by decide +kernel
theorem d_Q_sendLook_22 : decode prog_8_method_12_code 22 = .ok (.iconst 0, 1) := by decide +kernel
theorem d_Q_sendLook_23 : decode prog_8_method_12_code 23 = .ok (.iload_n 2, 1) := by decide +kernel
theorem d_Q_sendLook_24 : decode prog_8_method_12_code 24 = .ok (.bipush 109, 2) := by decide +kernel
theorem d_Q_sendLook_26 : decode prog_8_method_12_code 26 = .ok (.invokevirtual 32, 3) := by decide +kernel
theorem d_Q_sendLook_29 : decode prog_8_method_12_code 29 = .ok (.aload_n 0, 1) := by decide +kernel
theorem d_Q_sendLook_30 : decode prog_8_method_12_code 30 = .ok (.getfield 20, 3) := by decide +kernel
theorem d_Q_sendLook_33 : decode prog_8_method_12_code 33 = .ok (.iload_n 1, 1) := by decide +kernel
theorem d_Q_sendLook_34 : decode prog_8_method_12_code 34 = .ok (.putfield 101, 3) := by decide +kernel
theorem d_Q_sendLook_37 : decode prog_8_method_12_code 37 = .ok (.return_, 1) := by decide +kernel
theorem d_Q_sendSequence_0 : decode prog_8_method_13_code 0 = .ok (.aload_n 0, 1) := by decide +kernel
theorem d_Q_sendSequence_1 : decode prog_8_method_13_code 1 = .ok (.bipush 27, 2) := by decide +kernel
theorem d_Q_sendSequence_3 : decode prog_8_method_13_code 3 = .ok (.invokevirtual 126, 3) := by decide +kernel
theorem d_Q_sendSequence_6 : decode prog_8_method_13_code 6 = .ok (.aload_n 0, 1) := by decide +kernel
theorem d_Q_sendSequence_7 : decode prog_8_method_13_code 7 = .ok (.bipush 91, 2) := by decide +kernel
theorem d_Q_sendSequence_9 : decode prog_8_method_13_code 9 = .ok (.invokevirtual 126, 3) := by decide +kernel
theorem d_Q_sendSequence_12 : decode prog_8_method_13_code 12 = .ok (.aload_n 0, 1) := by decide +kernel
theorem d_Q_sendSequence_13 : decode prog_8_method_13_code 13 = .ok (.iload_n 1, 1) := by decide +kernel
theorem d_Q_sendSequence_14 : decode prog_8_method_13_code 14 = .ok (.invokevirtual 129, 3) := by decide +kernel
theorem d_Q_sendSequence_17 : decode prog_8_method_13_code 17 = .ok (.iload_n 2, 1) := by decide +kernel
theorem d_Q_sendSequence_18 : decode prog_8_method_13_code 18 = .ok (.iconst (-1), 1) := by decide +kernel
theorem d_Q_sendSequence_19 : decode prog_8_method_13_code 19 = .ok (.if_icmp .eq 14, 3) := by decide +kernel
theorem d_Q_sendSequence_22 : decode prog_8_method_13_code 22 = .ok (.aload_n 0, 1) := by decide +kernel
theorem d_Q_sendSequence_23 : decode prog_8_method_13_code 23 = .ok (.bipush 59, 2) := by decide +kernel
theorem d_Q_sendSequence_25 : decode prog_8_method_13_code 25 = .ok (.invokevirtual 126, 3) := by decide +kernel
theorem d_Q_sendSequence_28 : decode prog_8_method_13_code 28 = .ok (.aload_n 0, 1) := by decide +kernel
theorem d_Q_sendSequence_29 : decode prog_8_method_13_code 29 = .ok (.iload_n 2, 1) := by decide +kernel
theorem d_Q_sendSequence_30 : decode prog_8_method_13_code 30 = .ok (.invokevirtual 129, 3) := by decide +kernel
theorem d_Q_sendSequence_33 : decode prog_8_method_13_code 33 = .ok (.aload_n 0, 1) := by decide +kernel
theorem d_Q_sendSequence_34 : decode prog_8_method_13_code 34 = .ok (.iload_n 3, 1) := by decide +kernel
theorem d_Q_sendSequence_35 : decode prog_8_method_13_code 35 = .ok (.invokevirtual 126, 3) := by decide +kernel
theorem d_Q_sendSequence_38 : decode prog_8_method_13_code 38 = .ok (.return_, 1) := by decide +kernel
theorem d_Q_putNumber_0 : decode prog_8_method_14_code 0 = .ok (.iload_n 1, 1) := by decide +kernel
theorem d_Q_putNumber_1 : decode prog_8_method_14_code 1 = .ok (.bipush 10, 2) := by decide +kernel
theorem d_Q_putNumber_3 : decode prog_8_method_14_code 3 = .ok (.if_icmp .lt 14, 3) := by decide +kernel
theorem d_Q_putNumber_6 : decode prog_8_method_14_code 6 = .ok (.aload_n 0, 1) := by decide +kernel
theorem d_Q_putNumber_7 : decode prog_8_method_14_code 7 = .ok (.bipush 48, 2) := by decide +kernel
theorem d_Q_putNumber_9 : decode prog_8_method_14_code 9 = .ok (.iload_n 1, 1) := by decide +kernel
theorem d_Q_putNumber_10 : decode prog_8_method_14_code 10 = .ok (.bipush 10, 2) := by decide +kernel
theorem d_Q_putNumber_12 : decode prog_8_method_14_code 12 = .ok (.idiv, 1) := by decide +kernel
theorem d_Q_putNumber_13 : decode prog_8_method_14_code 13 = .ok (.iadd, 1) := by decide +kernel
theorem d_Q_putNumber_14 : decode prog_8_method_14_code 14 = .ok (.invokevirtual 126, 3) := by decide +kernel
theorem d_Q_putNumber_17 : decode prog_8_method_14_code 17 = .ok (.iload_n 1, 1) := by decide +kernel
theorem d_Q_putNumber_18 : decode prog_8_method_14_code 18 = .ok (.ifCond .lt 14, 3) := by decide +kernel
theorem d_Q_putNumber_21 : decode prog_8_method_14_code 21 = .ok (.aload_n 0, 1) := by decide +kernel
theorem d_Q_putNumber_22 : decode prog_8_method_14_code 22 = .ok (.bipush 48, 2) := by decide +kernel
theorem d_Q_putNumber_24 : decode prog_8_method_14_code 24 = .ok (.iload_n 1, 1) := by decide +kernel
theorem d_Q_putNumber_25 : decode prog_8_method_14_code 25 = .ok (.bipush 10, 2) := by decide +kernel
theorem d_Q_putNumber_27 : decode prog_8_method_14_code 27 = .ok (.irem, 1) := by decide +kernel
theorem d_Q_putNumber_28 : decode prog_8_method_14_code 28 = .ok (.iadd, 1) := by decide +kernel
theorem d_Q_putNumber_29 : decode prog_8_method_14_code 29 = .ok (.invokevirtual 126, 3) := by decide +kernel
theorem d_Q_putNumber_32 : decode prog_8_method_14_code 32 = .ok (.return_, 1) := by decide +kernel
theorem d_Q_sendCharacter_0 : decode prog_8_method_15_code 0 = .ok (.iload_n 1, 1) := by decide +kernel
theorem d_Q_sendCharacter_1 : decode prog_8_method_15_code 1 = .ok (.iconst (-1), 1) := by decide +kernel
theorem d_Q_sendCharacter_2 : decode prog_8_method_15_code 2 = .ok (.if_icmp .ne 4, 3) := by decide +kernel
theorem d_Q_sendCharacter_5 : decode prog_8_method_15_code 5 = .ok (.return_, 1) := by decide +kernel
theorem d_Q_sendCharacter_6 : decode prog_8_method_15_code 6 = .ok (.iload_n 1, 1) := by decide +kernel
theorem d_Q_sendCharacter_7 : decode prog_8_method_15_code 7 = .ok (.sipush 128, 3) := by decide +kernel
theorem d_Q_sendCharacter_10 : decode prog_8_method_15_code 10 = .ok (.if_icmp .ge 11, 3) := by decide +kernel
theorem d_Q_sendCharacter_13 : decode prog_8_method_15_code 13 = .ok (.aload_n 0, 1) := by decide +kernel
theorem d_Q_sendCharacter_14 : decode prog_8_method_15_code 14 = .ok (.iload_n 1, 1) := by decide +kernel
theorem d_Q_sendCharacter_15 : decode prog_8_method_15_code 15 = .ok (.invokevirtual 126, 3) := by decide +kernel
theorem d_Q_sendCharacter_18 : decode prog_8_method_15_code 18 = .ok (.goto 77, 3) := by decide +kernel
theorem d_Q_sendCharacter_21 : decode prog_8_method_15_code 21 = .ok (.iload_n 1, 1) := by decide +kernel
theorem d_Q_sendCharacter_22 : decode prog_8_method_15_code 22 = .ok (.sipush 2048, 3) := by decide +kernel
theorem d_Q_sendCharacter_25 : decode prog_8_method_15_code 25 = .ok (.if_icmp .ge 30, 3) := by decide +kernel
theorem d_Q_sendCharacter_28 : decode prog_8_method_15_code 28 = .ok (.aload_n 0, 1) := by decide +kernel
theorem d_Q_sendCharacter_29 : decode prog_8_method_15_code 29 = .ok (.sipush 192, 3) := by decide +kernel
theorem d_Q_sendCharacter_32 : decode prog_8_method_15_code 32 = .ok (.iload_n 1, 1) := by decide +kernel
theorem d_Q_sendCharacter_33 : decode prog_8_method_15_code 33 = .ok (.bipush 64, 2) := by decide +kernel
theorem d_Q_sendCharacter_35 : decode prog_8_method_15_code 35 = .ok (.idiv, 1) := by decide +kernel
theorem d_Q_sendCharacter_36 : decode prog_8_method_15_code 36 = .ok (.iadd, 1) := by decide +kernel
theorem d_Q_sendCharacter_37 : decode prog_8_method_15_code 37 = .ok (.invokevirtual 126, 3) := by decide +kernel
theorem d_Q_sendCharacter_40 : decode prog_8_method_15_code 40 = .ok (.aload_n 0, 1) := by decide +kernel
theorem d_Q_sendCharacter_41 : decode prog_8_method_15_code 41 = .ok (.sipush 128, 3) := by decide +kernel
theorem d_Q_sendCharacter_44 : decode prog_8_method_15_code 44 = .ok (.iload_n 1, 1) := by decide +kernel
theorem d_Q_sendCharacter_45 : decode prog_8_method_15_code 45 = .ok (.bipush 64, 2) := by decide +kernel
theorem d_Q_sendCharacter_47 : decode prog_8_method_15_code 47 = .ok (.irem, 1) := by decide +kernel
theorem d_Q_sendCharacter_48 : decode prog_8_method_15_code 48 = .ok (.iadd, 1) := by decide +kernel
theorem d_Q_sendCharacter_49 : decode prog_8_method_15_code 49 = .ok (.invokevirtual 126, 3) := by decide +kernel
theorem d_Q_sendCharacter_52 : decode prog_8_method_15_code 52 = .ok (.goto 43, 3) := by decide +kernel
theorem d_Q_sendCharacter_55 : decode prog_8_method_15_code 55 = .ok (.aload_n 0, 1) := by decide +kernel
theorem d_Q_sendCharacter_56 : decode prog_8_method_15_code 56 = .ok (.sipush 224, 3) := by decide +kernel
theorem d_Q_sendCharacter_59 : decode prog_8_method_15_code 59 = .ok (.iload_n 1, 1) := by decide +kernel
theorem d_Q_sendCharacter_60 : decode prog_8_method_15_code 60 = .ok (.sipush 4096, 3) := by decide +kernel
theorem d_Q_sendCharacter_63 : decode prog_8_method_15_code 63 = .ok (.idiv, 1) := by decide +kernel
theorem d_Q_sendCharacter_64 : decode prog_8_method_15_code 64 = .ok (.iadd, 1) := by decide +kernel
theorem d_Q_sendCharacter_65 : decode prog_8_method_15_code 65 = .ok (.invokevirtual 126, 3) := by decide +kernel
theorem d_Q_sendCharacter_68 : decode prog_8_method_15_code 68 = .ok (.aload_n 0, 1) := by decide +kernel
theorem d_Q_sendCharacter_69 : decode prog_8_method_15_code 69 = .ok (.sipush 128, 3) := by decide +kernel
theorem d_Q_sendCharacter_72 : decode prog_8_method_15_code 72 = .ok (.iload_n 1, 1) := by decide +kernel
theorem d_Q_sendCharacter_73 : decode prog_8_method_15_code 73 = .ok (.bipush 64, 2) := by decide +kernel
theorem d_Q_sendCharacter_75 : decode prog_8_method_15_code 75 = .ok (.idiv, 1) := by decide +kernel
theorem d_Q_sendCharacter_76 : decode prog_8_method_15_code 76 = .ok (.bipush 64, 2) := by decide +kernel
theorem d_Q_sendCharacter_78 : decode prog_8_method_15_code 78 = .ok (.irem, 1) := by decide +kernel
theorem d_Q_sendCharacter_79 : decode prog_8_method_15_code 79 = .ok (.iadd, 1) := by decide +kernel
theorem d_Q_sendCharacter_80 : decode prog_8_method_15_code 80 = .ok (.invokevirtual 126, 3) := by decide +kernel
theorem d_Q_sendCharacter_83 : decode prog_8_method_15_code 83 = .ok (.aload_n 0, 1) := by decide +kernel
theorem d_Q_sendCharacter_84 : decode prog_8_method_15_code 84 = .ok (.sipush 128, 3) := by decide +kernel
theorem d_Q_sendCharacter_87 : decode prog_8_method_15_code 87 = .ok (.iload_n 1, 1) := by decide +kernel
theorem d_Q_sendCharacter_88 : decode prog_8_method_15_code 88 = .ok (.bipush 64, 2) := by decide +kernel
theorem d_Q_sendCharacter_90 : decode prog_8_method_15_code 90 = .ok (.irem, 1) := by decide +kernel
theorem d_Q_sendCharacter_91 : decode prog_8_method_15_code 91 = .ok (.iadd, 1) := by decide +kernel
theorem d_Q_sendCharacter_92 : decode prog_8_method_15_code 92 = .ok (.invokevirtual 126, 3) := by decide +kernel
theorem d_Q_sendCharacter_95 : decode prog_8_method_15_code 95 = .ok (.aload_n 0, 1) := by decide +kernel
theorem d_Q_sendCharacter_96 : decode prog_8_method_15_code 96 = .ok (.getfield 20, 3) := by decide +kernel
theorem d_Q_sendCharacter_99 : decode prog_8_method_15_code 99 = .ok (.iload_n 1, 1) := by decide +kernel
theorem d_Q_sendCharacter_100 : decode prog_8_method_15_code 100 = .ok (.invokevirtual 132, 3) := by decide +kernel
theorem d_Q_sendCharacter_103 : decode prog_8_method_15_code 103 = .ok (.return_, 1) := by decide +kernel
theorem d_Q_put_0 : decode prog_8_method_16_code 0 = .ok (.aload_n 0, 1) := by decide +kernel
theorem d_Q_put_1 : decode prog_8_method_16_code 1 = .ok (.getfield 24, 3) := by decide +kernel
theorem d_Q_put_4 : decode prog_8_method_16_code 4 = .ok (.sipush 2048, 3) := by decide +kernel
theorem d_Q_put_7 : decode prog_8_method_16_code 7 = .ok (.if_icmp .ge 23, 3) := by decide +kernel
theorem d_Q_put_10 : decode prog_8_method_16_code 10 = .ok (.aload_n 0, 1) := by decide +kernel
theorem d_Q_put_11 : decode prog_8_method_16_code 11 = .ok (.getfield 9, 3) := by decide +kernel
theorem d_Q_put_14 : decode prog_8_method_16_code 14 = .ok (.aload_n 0, 1) := by decide +kernel
theorem d_Q_put_15 : decode prog_8_method_16_code 15 = .ok (.getfield 24, 3) := by decide +kernel
theorem d_Q_put_18 : decode prog_8_method_16_code 18 = .ok (.iload_n 1, 1) := by decide +kernel
theorem d_Q_put_19 : decode prog_8_method_16_code 19 = .ok (.iastore, 1) := by decide +kernel
theorem d_Q_put_20 : decode prog_8_method_16_code 20 = .ok (.aload_n 0, 1) := by decide +kernel
theorem d_Q_put_21 : decode prog_8_method_16_code 21 = .ok (.dup, 1) := by decide +kernel
theorem d_Q_put_22 : decode prog_8_method_16_code 22 = .ok (.getfield 24, 3) := by decide +kernel
theorem d_Q_put_25 : decode prog_8_method_16_code 25 = .ok (.iconst 1, 1) := by decide +kernel
theorem d_Q_put_26 : decode prog_8_method_16_code 26 = .ok (.iadd, 1) := by decide +kernel
theorem d_Q_put_27 : decode prog_8_method_16_code 27 = .ok (.putfield 24, 3) := by decide +kernel
theorem d_Q_put_30 : decode prog_8_method_16_code 30 = .ok (.return_, 1) := by decide +kernel
theorem d_P_type_0 : decode prog_1_method_2_code 0 = .ok (.iload_n 3, 1) := by decide +kernel
theorem d_P_type_1 : decode prog_1_method_2_code 1 = .ok (.iconst 1, 1) := by decide +kernel
theorem d_P_type_2 : decode prog_1_method_2_code 2 = .ok (.if_icmp .lt 9, 3) := by decide +kernel
theorem d_P_type_5 : decode prog_1_method_2_code 5 = .ok (.iload_n 3, 1) := by decide +kernel
theorem d_P_type_6 : decode prog_1_method_2_code 6 = .ok (.bipush 8, 2) := by decide +kernel
theorem d_P_type_8 : decode prog_1_method_2_code 8 = .ok (.if_icmp .le 5, 3) := by decide +kernel
theorem d_P_type_11 : decode prog_1_method_2_code 11 = .ok (.iconst (-1), 1) := by decide +kernel
theorem d_P_type_12 : decode prog_1_method_2_code 12 = .ok (.ireturn, 1) := by decide +kernel
theorem d_P_type_13 : decode prog_1_method_2_code 13 = .ok (.iconst 0, 1) := by decide +kernel
theorem d_P_type_14 : decode prog_1_method_2_code 14 = .ok (.istore 4, 2) := by decide +kernel
theorem d_P_type_16 : decode prog_1_method_2_code 16 = .ok (.iload 4, 2) := by decide +kernel
theorem d_P_type_18 : decode prog_1_method_2_code 18 = .ok (.iload_n 3, 1) := by decide +kernel
theorem d_P_type_19 : decode prog_1_method_2_code 19 = .ok (.if_icmp .ge 55, 3) := by decide +kernel
theorem d_P_type_22 : decode prog_1_method_2_code 22 = .ok (.lload_n 1, 1) := by decide +kernel
theorem d_P_type_23 : decode prog_1_method_2_code 23 = .ok (.bipush 8, 2) := by decide +kernel
theorem d_P_type_25 : decode prog_1_method_2_code 25 = .ok (.iload 4, 2) := by decide +kernel
theorem d_P_type_27 : decode prog_1_method_2_code 27 = .ok (.imul, 1) := by decide +kernel
theorem d_P_type_28 : decode prog_1_method_2_code 28 = .ok (.lushr, 1) := by decide +kernel
theorem d_P_type_29 : decode prog_1_method_2_code 29 = .ok (.l2i, 1) := by decide +kernel
theorem d_P_type_30 : decode prog_1_method_2_code 30 = .ok (.sipush 255, 3) := by decide +kernel
theorem d_P_type_33 : decode prog_1_method_2_code 33 = .ok (.iand, 1) := by decide +kernel
theorem d_P_type_34 : decode prog_1_method_2_code 34 = .ok (.istore 5, 2) := by decide +kernel
theorem d_P_type_36 : decode prog_1_method_2_code 36 = .ok (.aload_n 0, 1) := by decide +kernel
theorem d_P_type_37 : decode prog_1_method_2_code 37 = .ok (.getfield 30, 3) := by decide +kernel
theorem d_P_type_40 : decode prog_1_method_2_code 40 = .ok (.aload_n 0, 1) := by decide +kernel
theorem d_P_type_41 : decode prog_1_method_2_code 41 = .ok (.getfield 21, 3) := by decide +kernel
theorem d_P_type_44 : decode prog_1_method_2_code 44 = .ok (.iload 5, 2) := by decide +kernel
theorem d_P_type_46 : decode prog_1_method_2_code 46 = .ok (.invokevirtual 50, 3) := by decide +kernel
theorem d_P_type_49 : decode prog_1_method_2_code 49 = .ok (.invokevirtual 54, 3) := by decide +kernel
theorem d_P_type_52 : decode prog_1_method_2_code 52 = .ok (.aload_n 0, 1) := by decide +kernel
theorem d_P_type_53 : decode prog_1_method_2_code 53 = .ok (.getfield 30, 3) := by decide +kernel
theorem d_P_type_56 : decode prog_1_method_2_code 56 = .ok (.aload_n 0, 1) := by decide +kernel
theorem d_P_type_57 : decode prog_1_method_2_code 57 = .ok (.getfield 21, 3) := by decide +kernel
theorem d_P_type_60 : decode prog_1_method_2_code 60 = .ok (.iload 5, 2) := by decide +kernel
theorem d_P_type_62 : decode prog_1_method_2_code 62 = .ok (.invokevirtual 57, 3) := by decide +kernel
theorem d_P_type_65 : decode prog_1_method_2_code 65 = .ok (.invokevirtual 54, 3) := by decide +kernel
theorem d_P_type_68 : decode prog_1_method_2_code 68 = .ok (.iinc 4 1, 3) := by decide +kernel
theorem d_P_type_71 : decode prog_1_method_2_code 71 = .ok (.goto (-55), 3) := by decide +kernel
theorem d_P_type_74 : decode prog_1_method_2_code 74 = .ok (.aload_n 0, 1) := by decide +kernel
theorem d_P_type_75 : decode prog_1_method_2_code 75 = .ok (.getfield 30, 3) := by decide +kernel
theorem d_P_type_78 : decode prog_1_method_2_code 78 = .ok (.getfield 60, 3) := by decide +kernel
theorem d_P_type_81 : decode prog_1_method_2_code 81 = .ok (.getfield 64, 3) := by decide +kernel
theorem d_P_type_84 : decode prog_1_method_2_code 84 = .ok (.ireturn, 1) := by decide +kernel
theorem d_P_tick_0 : decode prog_1_method_3_code 0 = .ok (.aload_n 0, 1) := by decide +kernel
theorem d_P_tick_1 : decode prog_1_method_3_code 1 = .ok (.getfield 30, 3) := by decide +kernel
theorem d_P_tick_4 : decode prog_1_method_3_code 4 = .ok (.aload_n 0, 1) := by decide +kernel
theorem d_P_tick_5 : decode prog_1_method_3_code 5 = .ok (.getfield 21, 3) := by decide +kernel
theorem d_P_tick_8 : decode prog_1_method_3_code 8 = .ok (.invokevirtual 70, 3) := by decide +kernel
theorem d_P_tick_11 : decode prog_1_method_3_code 11 = .ok (.invokevirtual 54, 3) := by decide +kernel
theorem d_P_tick_14 : decode prog_1_method_3_code 14 = .ok (.aload_n 0, 1) := by decide +kernel
theorem d_P_tick_15 : decode prog_1_method_3_code 15 = .ok (.getfield 30, 3) := by decide +kernel
theorem d_P_tick_18 : decode prog_1_method_3_code 18 = .ok (.getfield 60, 3) := by decide +kernel
theorem d_P_tick_21 : decode prog_1_method_3_code 21 = .ok (.getfield 64, 3) := by decide +kernel
theorem d_P_tick_24 : decode prog_1_method_3_code 24 = .ok (.ireturn, 1) := by decide +kernel
theorem d_P_size_0 : decode prog_1_method_4_code 0 = .ok (.iload_n 1, 1) := by decide +kernel
theorem d_P_size_1 : decode prog_1_method_4_code 1 = .ok (.iconst 1, 1) := by decide +kernel
theorem d_P_size_2 : decode prog_1_method_4_code 2 = .ok (.if_icmp .lt 20, 3) := by decide +kernel
theorem d_P_size_5 : decode prog_1_method_4_code 5 = .ok (.iload_n 1, 1) := by decide +kernel
theorem d_P_size_6 : decode prog_1_method_4_code 6 = .ok (.bipush 24, 2) := by decide +kernel
theorem d_P_size_8 : decode prog_1_method_4_code 8 = .ok (.if_icmp .gt 14, 3) := by decide +kernel
theorem d_P_size_11 : decode prog_1_method_4_code 11 = .ok (.iload_n 2, 1) := by decide +kernel
theorem d_P_size_12 : decode prog_1_method_4_code 12 = .ok (.iconst 1, 1) := by decide +kernel
theorem d_P_size_13 : decode prog_1_method_4_code 13 = .ok (.if_icmp .lt 9, 3) := by decide +kernel
theorem d_P_size_16 : decode prog_1_method_4_code 16 = .ok (.iload_n 2, 1) := by decide +kernel
theorem d_P_size_17 : decode prog_1_method_4_code 17 = .ok (.bipush 8, 2) := by decide +kernel
theorem d_P_size_19 : decode prog_1_method_4_code 19 = .ok (.if_icmp .le 5, 3) := by decide +kernel
theorem d_P_size_22 : decode prog_1_method_4_code 22 = .ok (.iconst 0, 1) := by decide +kernel
theorem d_P_size_23 : decode prog_1_method_4_code 23 = .ok (.ireturn, 1) := by decide +kernel
theorem d_P_size_24 : decode prog_1_method_4_code 24 = .ok (.aload_n 0, 1) := by decide +kernel
theorem d_P_size_25 : decode prog_1_method_4_code 25 = .ok (.getfield 30, 3) := by decide +kernel
theorem d_P_size_28 : decode prog_1_method_4_code 28 = .ok (.iload_n 1, 1) := by decide +kernel
theorem d_P_size_29 : decode prog_1_method_4_code 29 = .ok (.putfield 74, 3) := by decide +kernel
theorem d_P_size_32 : decode prog_1_method_4_code 32 = .ok (.aload_n 0, 1) := by decide +kernel
theorem d_P_size_33 : decode prog_1_method_4_code 33 = .ok (.getfield 30, 3) := by decide +kernel
theorem d_P_size_36 : decode prog_1_method_4_code 36 = .ok (.iconst 1, 1) := by decide +kernel
theorem d_P_size_37 : decode prog_1_method_4_code 37 = .ok (.putfield 77, 3) := by decide +kernel
theorem d_P_size_40 : decode prog_1_method_4_code 40 = .ok (.aload_n 0, 1) := by decide +kernel
theorem d_P_size_41 : decode prog_1_method_4_code 41 = .ok (.getfield 39, 3) := by decide +kernel
theorem d_P_size_44 : decode prog_1_method_4_code 44 = .ok (.getfield 81, 3) := by decide +kernel
theorem d_P_size_47 : decode prog_1_method_4_code 47 = .ok (.iload_n 1, 1) := by decide +kernel
theorem d_P_size_48 : decode prog_1_method_4_code 48 = .ok (.iload_n 2, 1) := by decide +kernel
theorem d_P_size_49 : decode prog_1_method_4_code 49 = .ok (.invokevirtual 85, 3) := by decide +kernel
theorem d_P_size_52 : decode prog_1_method_4_code 52 = .ok (.aload_n 0, 1) := by decide +kernel
theorem d_P_size_53 : decode prog_1_method_4_code 53 = .ok (.getfield 46, 3) := by decide +kernel
theorem d_P_size_56 : decode prog_1_method_4_code 56 = .ok (.getfield 90, 3) := by decide +kernel
theorem d_P_size_59 : decode prog_1_method_4_code 59 = .ok (.iload_n 1, 1) := by decide +kernel
theorem d_P_size_60 : decode prog_1_method_4_code 60 = .ok (.iload_n 2, 1) := by decide +kernel
theorem d_P_size_61 : decode prog_1_method_4_code 61 = .ok (.invokevirtual 94, 3) := by decide +kernel
theorem d_P_size_64 : decode prog_1_method_4_code 64 = .ok (.iconst 1, 1) := by decide +kernel
theorem d_P_size_65 : decode prog_1_method_4_code 65 = .ok (.ireturn, 1) := by decide +kernel
theorem d_P_draw_0 : decode prog_1_method_5_code 0 = .ok (.aload_n 0, 1) := by decide +kernel
theorem d_P_draw_1 : decode prog_1_method_5_code 1 = .ok (.getfield 39, 3) := by decide +kernel
theorem d_P_draw_4 : decode prog_1_method_5_code 4 = .ok (.aload_n 0, 1) := by decide +kernel
theorem d_P_draw_5 : decode prog_1_method_5_code 5 = .ok (.getfield 30, 3) := by decide +kernel
theorem d_P_draw_8 : decode prog_1_method_5_code 8 = .ok (.invokevirtual 97, 3) := by decide +kernel
theorem d_P_draw_11 : decode prog_1_method_5_code 11 = .ok (.aload_n 0, 1) := by decide +kernel
theorem d_P_draw_12 : decode prog_1_method_5_code 12 = .ok (.getfield 46, 3) := by decide +kernel
theorem d_P_draw_15 : decode prog_1_method_5_code 15 = .ok (.aload_n 0, 1) := by decide +kernel
theorem d_P_draw_16 : decode prog_1_method_5_code 16 = .ok (.getfield 30, 3) := by decide +kernel
theorem d_P_draw_19 : decode prog_1_method_5_code 19 = .ok (.getfield 77, 3) := by decide +kernel
theorem d_P_draw_22 : decode prog_1_method_5_code 22 = .ok (.invokevirtual 101, 3) := by decide +kernel
theorem d_P_draw_25 : decode prog_1_method_5_code 25 = .ok (.aload_n 0, 1) := by decide +kernel
theorem d_P_draw_26 : decode prog_1_method_5_code 26 = .ok (.getfield 30, 3) := by decide +kernel
theorem d_P_draw_29 : decode prog_1_method_5_code 29 = .ok (.iconst 0, 1) := by decide +kernel
theorem d_P_draw_30 : decode prog_1_method_5_code 30 = .ok (.putfield 77, 3) := by decide +kernel
theorem d_P_draw_33 : decode prog_1_method_5_code 33 = .ok (.iconst 0, 1) := by decide +kernel
theorem d_P_draw_34 : decode prog_1_method_5_code 34 = .ok (.istore_n 1, 1) := by decide +kernel
theorem d_P_draw_35 : decode prog_1_method_5_code 35 = .ok (.iload_n 1, 1) := by decide +kernel
theorem d_P_draw_36 : decode prog_1_method_5_code 36 = .ok (.aload_n 0, 1) := by decide +kernel
theorem d_P_draw_37 : decode prog_1_method_5_code 37 = .ok (.getfield 39, 3) := by decide +kernel
theorem d_P_draw_40 : decode prog_1_method_5_code 40 = .ok (.getfield 81, 3) := by decide +kernel
theorem d_P_draw_43 : decode prog_1_method_5_code 43 = .ok (.getfield 105, 3) := by decide +kernel
theorem d_P_draw_46 : decode prog_1_method_5_code 46 = .ok (.if_icmp .ge 24, 3) := by decide +kernel
theorem d_P_draw_49 : decode prog_1_method_5_code 49 = .ok (.aload_n 0, 1) := by decide +kernel
theorem d_P_draw_50 : decode prog_1_method_5_code 50 = .ok (.getfield 46, 3) := by decide +kernel
theorem d_P_draw_53 : decode prog_1_method_5_code 53 = .ok (.aload_n 0, 1) := by decide +kernel
theorem d_P_draw_54 : decode prog_1_method_5_code 54 = .ok (.getfield 39, 3) := by decide +kernel
theorem d_P_draw_57 : decode prog_1_method_5_code 57 = .ok (.getfield 81, 3) := by decide +kernel
theorem d_P_draw_60 : decode prog_1_method_5_code 60 = .ok (.iload_n 1, 1) := by decide +kernel
theorem d_P_draw_61 : decode prog_1_method_5_code 61 = .ok (.invokevirtual 108, 3) := by decide +kernel
theorem d_P_draw_64 : decode prog_1_method_5_code 64 = .ok (.iinc 1 1, 3) := by decide +kernel
theorem d_P_draw_67 : decode prog_1_method_5_code 67 = .ok (.goto (-32), 3) := by decide +kernel
theorem d_P_draw_70 : decode prog_1_method_5_code 70 = .ok (.aload_n 0, 1) := by decide +kernel
theorem d_P_draw_71 : decode prog_1_method_5_code 71 = .ok (.getfield 46, 3) := by decide +kernel
theorem d_P_draw_74 : decode prog_1_method_5_code 74 = .ok (.aload_n 0, 1) := by decide +kernel
theorem d_P_draw_75 : decode prog_1_method_5_code 75 = .ok (.getfield 39, 3) := by decide +kernel
theorem d_P_draw_78 : decode prog_1_method_5_code 78 = .ok (.getfield 112, 3) := by decide +kernel
theorem d_P_draw_81 : decode prog_1_method_5_code 81 = .ok (.aload_n 0, 1) := by decide +kernel
theorem d_P_draw_82 : decode prog_1_method_5_code 82 = .ok (.getfield 39, 3) := by decide +kernel
theorem d_P_draw_85 : decode prog_1_method_5_code 85 = .ok (.getfield 115, 3) := by decide +kernel
theorem d_P_draw_88 : decode prog_1_method_5_code 88 = .ok (.invokevirtual 118, 3) := by decide +kernel
theorem d_P_draw_91 : decode prog_1_method_5_code 91 = .ok (.aload_n 0, 1) := by decide +kernel
theorem d_P_draw_92 : decode prog_1_method_5_code 92 = .ok (.getfield 46, 3) := by decide +kernel
theorem d_P_draw_95 : decode prog_1_method_5_code 95 = .ok (.getfield 121, 3) := by decide +kernel
theorem d_P_draw_98 : decode prog_1_method_5_code 98 = .ok (.ireturn, 1) := by decide +kernel
theorem d_P_text_0 : decode prog_1_method_6_code 0 = .ok (.aload_n 0, 1) := by decide +kernel
theorem d_P_text_1 : decode prog_1_method_6_code 1 = .ok (.getfield 30, 3) := by decide +kernel
theorem d_P_text_4 : decode prog_1_method_6_code 4 = .ok (.getfield 60, 3) := by decide +kernel
theorem d_P_text_7 : decode prog_1_method_6_code 7 = .ok (.iload_n 1, 1) := by decide +kernel
theorem d_P_text_8 : decode prog_1_method_6_code 8 = .ok (.invokevirtual 124, 3) := by decide +kernel
theorem d_P_text_11 : decode prog_1_method_6_code 11 = .ok (.ireturn, 1) := by decide +kernel
theorem d_P_state_0 : decode prog_1_method_7_code 0 = .ok (.iload_n 1, 1) := by decide +kernel
theorem d_P_state_1 : decode prog_1_method_7_code 1 = .ok (.tableswitch 126 0 7 #[47, 55, 65, 73, 84, 94, 102, 110], 47) := by decide +kernel
theorem d_P_state_48 : decode prog_1_method_7_code 48 = .ok (.aload_n 0, 1) := by decide +kernel
theorem d_P_state_49 : decode prog_1_method_7_code 49 = .ok (.getfield 30, 3) := by decide +kernel
theorem d_P_state_52 : decode prog_1_method_7_code 52 = .ok (.getfield 127, 3) := by decide +kernel
theorem d_P_state_55 : decode prog_1_method_7_code 55 = .ok (.ireturn, 1) := by decide +kernel
theorem d_P_state_56 : decode prog_1_method_7_code 56 = .ok (.aload_n 0, 1) := by decide +kernel
theorem d_P_state_57 : decode prog_1_method_7_code 57 = .ok (.getfield 30, 3) := by decide +kernel
theorem d_P_state_60 : decode prog_1_method_7_code 60 = .ok (.getfield 130, 3) := by decide +kernel
theorem d_P_state_63 : decode prog_1_method_7_code 63 = .ok (.iconst 1, 1) := by decide +kernel
theorem d_P_state_64 : decode prog_1_method_7_code 64 = .ok (.iadd, 1) := by decide +kernel
theorem d_P_state_65 : decode prog_1_method_7_code 65 = .ok (.ireturn, 1) := by decide +kernel
theorem d_P_state_66 : decode prog_1_method_7_code 66 = .ok (.aload_n 0, 1) := by decide +kernel
theorem d_P_state_67 : decode prog_1_method_7_code 67 = .ok (.getfield 30, 3) := by decide +kernel
theorem d_P_state_70 : decode prog_1_method_7_code 70 = .ok (.getfield 133, 3) := by decide +kernel
theorem d_P_state_73 : decode prog_1_method_7_code 73 = .ok (.ireturn, 1) := by decide +kernel
theorem d_P_state_74 : decode prog_1_method_7_code 74 = .ok (.aload_n 0, 1) := by decide +kernel
theorem d_P_state_75 : decode prog_1_method_7_code 75 = .ok (.getfield 30, 3) := by decide +kernel
theorem d_P_state_78 : decode prog_1_method_7_code 78 = .ok (.getfield 136, 3) := by decide +kernel
theorem d_P_state_81 : decode prog_1_method_7_code 81 = .ok (.getfield 140, 3) := by decide +kernel
theorem d_P_state_84 : decode prog_1_method_7_code 84 = .ok (.ireturn, 1) := by decide +kernel
theorem d_P_state_85 : decode prog_1_method_7_code 85 = .ok (.aload_n 0, 1) := by decide +kernel
theorem d_P_state_86 : decode prog_1_method_7_code 86 = .ok (.getfield 30, 3) := by decide +kernel
theorem d_P_state_89 : decode prog_1_method_7_code 89 = .ok (.getfield 145, 3) := by decide +kernel
theorem d_P_state_92 : decode prog_1_method_7_code 92 = .ok (.iconst 1, 1) := by decide +kernel
theorem d_P_state_93 : decode prog_1_method_7_code 93 = .ok (.iadd, 1) := by decide +kernel
theorem d_P_state_94 : decode prog_1_method_7_code 94 = .ok (.ireturn, 1) := by decide +kernel
theorem d_P_state_95 : decode prog_1_method_7_code 95 = .ok (.aload_n 0, 1) := by decide +kernel
theorem d_P_state_96 : decode prog_1_method_7_code 96 = .ok (.getfield 39, 3) := by decide +kernel
theorem d_P_state_99 : decode prog_1_method_7_code 99 = .ok (.getfield 148, 3) := by decide +kernel
theorem d_P_state_102 : decode prog_1_method_7_code 102 = .ok (.ireturn, 1) := by decide +kernel
theorem d_P_state_103 : decode prog_1_method_7_code 103 = .ok (.aload_n 0, 1) := by decide +kernel
theorem d_P_state_104 : decode prog_1_method_7_code 104 = .ok (.getfield 21, 3) := by decide +kernel
theorem d_P_state_107 : decode prog_1_method_7_code 107 = .ok (.getfield 151, 3) := by decide +kernel
theorem d_P_state_110 : decode prog_1_method_7_code 110 = .ok (.ireturn, 1) := by decide +kernel
theorem d_P_state_111 : decode prog_1_method_7_code 111 = .ok (.aload_n 0, 1) := by decide +kernel
theorem d_P_state_112 : decode prog_1_method_7_code 112 = .ok (.getfield 30, 3) := by decide +kernel
theorem d_P_state_115 : decode prog_1_method_7_code 115 = .ok (.getfield 154, 3) := by decide +kernel
theorem d_P_state_118 : decode prog_1_method_7_code 118 = .ok (.ifCond .eq 7, 3) := by decide +kernel
theorem d_P_state_121 : decode prog_1_method_7_code 121 = .ok (.iconst 1, 1) := by decide +kernel
theorem d_P_state_122 : decode prog_1_method_7_code 122 = .ok (.goto 4, 3) := by decide +kernel
theorem d_P_state_125 : decode prog_1_method_7_code 125 = .ok (.iconst 0, 1) := by decide +kernel
theorem d_P_state_126 : decode prog_1_method_7_code 126 = .ok (.ireturn, 1) := by decide +kernel
theorem d_P_state_127 : decode prog_1_method_7_code 127 = .ok (.iconst (-1), 1) := by decide +kernel
theorem d_P_state_128 : decode prog_1_method_7_code 128 = .ok (.ireturn, 1) := by decide +kernel
theorem d_P_cell_0 : decode prog_1_method_8_code 0 = .ok (.aload_n 0, 1) := by decide +kernel
theorem d_P_cell_1 : decode prog_1_method_8_code 1 = .ok (.getfield 46, 3) := by decide +kernel
theorem d_P_cell_4 : decode prog_1_method_8_code 4 = .ok (.getfield 90, 3) := by decide +kernel
theorem d_P_cell_7 : decode prog_1_method_8_code 7 = .ok (.getfield 157, 3) := by decide +kernel
theorem d_P_cell_10 : decode prog_1_method_8_code 10 = .ok (.iload_n 1, 1) := by decide +kernel
theorem d_P_cell_11 : decode prog_1_method_8_code 11 = .ok (.iload_n 2, 1) := by decide +kernel
theorem d_P_cell_12 : decode prog_1_method_8_code 12 = .ok (.invokevirtual 158, 3) := by decide +kernel
theorem d_P_cell_15 : decode prog_1_method_8_code 15 = .ok (.ireturn, 1) := by decide +kernel
theorem d_P_look_0 : decode prog_1_method_9_code 0 = .ok (.aload_n 0, 1) := by decide +kernel
theorem d_P_look_1 : decode prog_1_method_9_code 1 = .ok (.getfield 46, 3) := by decide +kernel
theorem d_P_look_4 : decode prog_1_method_9_code 4 = .ok (.getfield 90, 3) := by decide +kernel
theorem d_P_look_7 : decode prog_1_method_9_code 7 = .ok (.getfield 157, 3) := by decide +kernel
theorem d_P_look_10 : decode prog_1_method_9_code 10 = .ok (.iload_n 1, 1) := by decide +kernel
theorem d_P_look_11 : decode prog_1_method_9_code 11 = .ok (.iload_n 2, 1) := by decide +kernel
theorem d_P_look_12 : decode prog_1_method_9_code 12 = .ok (.invokevirtual 161, 3) := by decide +kernel
theorem d_P_look_15 : decode prog_1_method_9_code 15 = .ok (.ireturn, 1) := by decide +kernel
theorem d_P_terminal_0 : decode prog_1_method_10_code 0 = .ok (.aload_n 0, 1) := by decide +kernel
theorem d_P_terminal_1 : decode prog_1_method_10_code 1 = .ok (.getfield 46, 3) := by decide +kernel
theorem d_P_terminal_4 : decode prog_1_method_10_code 4 = .ok (.getfield 90, 3) := by decide +kernel
theorem d_P_terminal_7 : decode prog_1_method_10_code 7 = .ok (.astore_n 2, 1) := by decide +kernel
theorem d_P_terminal_8 : decode prog_1_method_10_code 8 = .ok (.iload_n 1, 1) := by decide +kernel
theorem d_P_terminal_9 : decode prog_1_method_10_code 9 = .ok (.tableswitch 59 0 3 #[31, 36, 41, 54], 31) := by decide +kernel
theorem d_P_terminal_40 : decode prog_1_method_10_code 40 = .ok (.aload_n 2, 1) := by decide +kernel
theorem d_P_terminal_41 : decode prog_1_method_10_code 41 = .ok (.getfield 164, 3) := by decide +kernel
theorem d_P_terminal_44 : decode prog_1_method_10_code 44 = .ok (.ireturn, 1) := by decide +kernel
theorem d_P_terminal_45 : decode prog_1_method_10_code 45 = .ok (.aload_n 2, 1) := by decide +kernel
theorem d_P_terminal_46 : decode prog_1_method_10_code 46 = .ok (.getfield 167, 3) := by decide +kernel
theorem d_P_terminal_49 : decode prog_1_method_10_code 49 = .ok (.ireturn, 1) := by decide +kernel
theorem d_P_terminal_50 : decode prog_1_method_10_code 50 = .ok (.aload_n 2, 1) := by decide +kernel
theorem d_P_terminal_51 : decode prog_1_method_10_code 51 = .ok (.getfield 170, 3) := by decide +kernel
theorem d_P_terminal_54 : decode prog_1_method_10_code 54 = .ok (.ifCond .eq 7, 3) := by decide +kernel
theorem d_P_terminal_57 : decode prog_1_method_10_code 57 = .ok (.iconst 1, 1) := by decide +kernel
theorem d_P_terminal_58 : decode prog_1_method_10_code 58 = .ok (.goto 4, 3) := by decide +kernel
theorem d_P_terminal_61 : decode prog_1_method_10_code 61 = .ok (.iconst 0, 1) := by decide +kernel
theorem d_P_terminal_62 : decode prog_1_method_10_code 62 = .ok (.ireturn, 1) := by decide +kernel
theorem d_P_terminal_63 : decode prog_1_method_10_code 63 = .ok (.aload_n 2, 1) := by decide +kernel
theorem d_P_terminal_64 : decode prog_1_method_10_code 64 = .ok (.getfield 173, 3) := by decide +kernel
theorem d_P_terminal_67 : decode prog_1_method_10_code 67 = .ok (.ireturn, 1) := by decide +kernel
theorem d_P_terminal_68 : decode prog_1_method_10_code 68 = .ok (.iconst (-1), 1) := by decide +kernel
theorem d_P_terminal_69 : decode prog_1_method_10_code 69 = .ok (.ireturn, 1) := by decide +kernel
theorem d_P_sent_0 : decode prog_1_method_11_code 0 = .ok (.aload_n 0, 1) := by decide +kernel
theorem d_P_sent_1 : decode prog_1_method_11_code 1 = .ok (.getfield 46, 3) := by decide +kernel
theorem d_P_sent_4 : decode prog_1_method_11_code 4 = .ok (.iload_n 1, 1) := by decide +kernel
theorem d_P_sent_5 : decode prog_1_method_11_code 5 = .ok (.invokevirtual 176, 3) := by decide +kernel
theorem d_P_sent_8 : decode prog_1_method_11_code 8 = .ok (.ireturn, 1) := by decide +kernel
