theorem d_M_command_0 : decode prog_13_method_22_code 0 = .ok (.iload_n 1, 1) := by decide +kernel
theorem d_M_command_1 : decode prog_13_method_22_code 1 = .ok (.bipush 127, 2) := by decide +kernel
theorem d_M_command_3 : decode prog_13_method_22_code 3 = .ok (.if_icmp .eq 38, 3) := by decide +kernel
theorem d_M_command_6 : decode prog_13_method_22_code 6 = .ok (.iload_n 1, 1) := by decide +kernel
theorem d_M_command_7 : decode prog_13_method_22_code 7 = .ok (.bipush 8, 2) := by decide +kernel
theorem d_M_command_9 : decode prog_13_method_22_code 9 = .ok (.if_icmp .eq 32, 3) := by decide +kernel
theorem d_M_command_12 : decode prog_13_method_22_code 12 = .ok (.iload_n 1, 1) := by decide +kernel
theorem d_M_command_13 : decode prog_13_method_22_code 13 = .ok (.ifCond .eq 28, 3) := by decide +kernel
theorem d_M_command_16 : decode prog_13_method_22_code 16 = .ok (.iload_n 1, 1) := by decide +kernel
theorem d_M_command_17 : decode prog_13_method_22_code 17 = .ok (.bipush 23, 2) := by decide +kernel
theorem d_M_command_19 : decode prog_13_method_22_code 19 = .ok (.if_icmp .eq 22, 3) := by decide +kernel
theorem d_M_command_22 : decode prog_13_method_22_code 22 = .ok (.iload_n 1, 1) := by decide +kernel
theorem d_M_command_23 : decode prog_13_method_22_code 23 = .ok (.bipush 25, 2) := by decide +kernel
theorem d_M_command_25 : decode prog_13_method_22_code 25 = .ok (.if_icmp .eq 16, 3) := by decide +kernel
theorem d_M_command_28 : decode prog_13_method_22_code 28 = .ok (.iload_n 1, 1) := by decide +kernel
theorem d_M_command_29 : decode prog_13_method_22_code 29 = .ok (.bipush 26, 2) := by decide +kernel
theorem d_M_command_31 : decode prog_13_method_22_code 31 = .ok (.if_icmp .eq 10, 3) := by decide +kernel
theorem d_M_command_34 : decode prog_13_method_22_code 34 = .ok (.iload_n 1, 1) := by decide +kernel
theorem d_M_command_35 : decode prog_13_method_22_code 35 = .ok (.bipush 12, 2) := by decide +kernel
theorem d_M_command_37 : decode prog_13_method_22_code 37 = .ok (.if_icmp .eq 4, 3) := by decide +kernel
theorem d_M_command_40 : decode prog_13_method_22_code 40 = .ok (.return_, 1) := by decide +kernel
theorem d_M_command_41 : decode prog_13_method_22_code 41 = .ok (.aload_n 0, 1) := by decide +kernel
theorem d_M_command_42 : decode prog_13_method_22_code 42 = .ok (.iconst (-1), 1) := by decide +kernel
theorem d_M_command_43 : decode prog_13_method_22_code 43 = .ok (.putfield 20, 3) := by decide +kernel
theorem d_M_command_46 : decode prog_13_method_22_code 46 = .ok (.iload_n 1, 1) := by decide +kernel
theorem d_M_command_47 : decode prog_13_method_22_code 47 = .ok (.ifCond .ne 14, 3) := by decide +kernel
theorem d_M_command_50 : decode prog_13_method_22_code 50 = .ok (.aload_n 0, 1) := by decide +kernel
theorem d_M_command_51 : decode prog_13_method_22_code 51 = .ok (.aload_n 0, 1) := by decide +kernel
theorem d_M_command_52 : decode prog_13_method_22_code 52 = .ok (.getfield 117, 3) := by decide +kernel
theorem d_M_command_55 : decode prog_13_method_22_code 55 = .ok (.putfield 13, 3) := by decide +kernel
theorem d_M_command_58 : decode prog_13_method_22_code 58 = .ok (.goto 79, 3) := by decide +kernel
theorem d_M_command_61 : decode prog_13_method_22_code 61 = .ok (.iload_n 1, 1) := by decide +kernel
theorem d_M_command_62 : decode prog_13_method_22_code 62 = .ok (.bipush 23, 2) := by decide +kernel
theorem d_M_command_64 : decode prog_13_method_22_code 64 = .ok (.if_icmp .ne 10, 3) := by decide +kernel
theorem d_M_command_67 : decode prog_13_method_22_code 67 = .ok (.aload_n 0, 1) := by decide +kernel
theorem d_M_command_68 : decode prog_13_method_22_code 68 = .ok (.invokevirtual 153, 3) := by decide +kernel
theorem d_M_command_71 : decode prog_13_method_22_code 71 = .ok (.goto 66, 3) := by decide +kernel
theorem d_M_command_74 : decode prog_13_method_22_code 74 = .ok (.iload_n 1, 1) := by decide +kernel
theorem d_M_command_75 : decode prog_13_method_22_code 75 = .ok (.bipush 25, 2) := by decide +kernel
theorem d_M_command_77 : decode prog_13_method_22_code 77 = .ok (.if_icmp .ne 10, 3) := by decide +kernel
theorem d_M_command_80 : decode prog_13_method_22_code 80 = .ok (.aload_n 0, 1) := by decide +kernel
theorem d_M_command_81 : decode prog_13_method_22_code 81 = .ok (.invokevirtual 156, 3) := by decide +kernel
theorem d_M_command_84 : decode prog_13_method_22_code 84 = .ok (.goto 53, 3) := by decide +kernel
theorem d_M_command_87 : decode prog_13_method_22_code 87 = .ok (.iload_n 1, 1) := by decide +kernel
theorem d_M_command_88 : decode prog_13_method_22_code 88 = .ok (.bipush 26, 2) := by decide +kernel
theorem d_M_command_90 : decode prog_13_method_22_code 90 = .ok (.if_icmp .ne 10, 3) := by decide +kernel
theorem d_M_command_93 : decode prog_13_method_22_code 93 = .ok (.aload_n 0, 1) := by decide +kernel
theorem d_M_command_94 : decode prog_13_method_22_code 94 = .ok (.invokevirtual 159, 3) := by decide +kernel
theorem d_M_command_97 : decode prog_13_method_22_code 97 = .ok (.goto 40, 3) := by decide +kernel
theorem d_M_command_100 : decode prog_13_method_22_code 100 = .ok (.iload_n 1, 1) := by decide +kernel
theorem d_M_command_101 : decode prog_13_method_22_code 101 = .ok (.bipush 12, 2) := by decide +kernel
theorem d_M_command_103 : decode prog_13_method_22_code 103 = .ok (.if_icmp .ne 11, 3) := by decide +kernel
theorem d_M_command_106 : decode prog_13_method_22_code 106 = .ok (.aload_n 0, 1) := by decide +kernel
theorem d_M_command_107 : decode prog_13_method_22_code 107 = .ok (.iconst 1, 1) := by decide +kernel
theorem d_M_command_108 : decode prog_13_method_22_code 108 = .ok (.putfield 71, 3) := by decide +kernel
theorem d_M_command_111 : decode prog_13_method_22_code 111 = .ok (.goto 26, 3) := by decide +kernel
theorem d_M_command_114 : decode prog_13_method_22_code 114 = .ok (.aload_n 0, 1) := by decide +kernel
theorem d_M_command_115 : decode prog_13_method_22_code 115 = .ok (.getfield 117, 3) := by decide +kernel
theorem d_M_command_118 : decode prog_13_method_22_code 118 = .ok (.ifCond .le 19, 3) := by decide +kernel
theorem d_M_command_121 : decode prog_13_method_22_code 121 = .ok (.aload_n 0, 1) := by decide +kernel
theorem d_M_command_122 : decode prog_13_method_22_code 122 = .ok (.aload_n 0, 1) := by decide +kernel
theorem d_M_command_123 : decode prog_13_method_22_code 123 = .ok (.aload_n 0, 1) := by decide +kernel
theorem d_M_command_124 : decode prog_13_method_22_code 124 = .ok (.getfield 117, 3) := by decide +kernel
theorem d_M_command_127 : decode prog_13_method_22_code 127 = .ok (.invokevirtual 162, 3) := by decide +kernel
theorem d_M_command_130 : decode prog_13_method_22_code 130 = .ok (.aload_n 0, 1) := by decide +kernel
theorem d_M_command_131 : decode prog_13_method_22_code 131 = .ok (.getfield 117, 3) := by decide +kernel
theorem d_M_command_134 : decode prog_13_method_22_code 134 = .ok (.invokevirtual 138, 3) := by decide +kernel
theorem d_M_command_137 : decode prog_13_method_22_code 137 = .ok (.return_, 1) := by decide +kernel
theorem d_M_escapeKey_0 : decode prog_13_method_23_code 0 = .ok (.aload_n 0, 1) := by decide +kernel
theorem d_M_escapeKey_1 : decode prog_13_method_23_code 1 = .ok (.getfield 147, 3) := by decide +kernel
theorem d_M_escapeKey_4 : decode prog_13_method_23_code 4 = .ok (.ifCond .eq 4, 3) := by decide +kernel
theorem d_M_escapeKey_7 : decode prog_13_method_23_code 7 = .ok (.return_, 1) := by decide +kernel
theorem d_M_escapeKey_8 : decode prog_13_method_23_code 8 = .ok (.aload_n 0, 1) := by decide +kernel
theorem d_M_escapeKey_9 : decode prog_13_method_23_code 9 = .ok (.iconst (-1), 1) := by decide +kernel
theorem d_M_escapeKey_10 : decode prog_13_method_23_code 10 = .ok (.putfield 20, 3) := by decide +kernel
theorem d_M_escapeKey_13 : decode prog_13_method_23_code 13 = .ok (.aload_n 0, 1) := by decide +kernel
theorem d_M_escapeKey_14 : decode prog_13_method_23_code 14 = .ok (.iconst (-1), 1) := by decide +kernel
theorem d_M_escapeKey_15 : decode prog_13_method_23_code 15 = .ok (.putfield 13, 3) := by decide +kernel
theorem d_M_escapeKey_18 : decode prog_13_method_23_code 18 = .ok (.return_, 1) := by decide +kernel
theorem d_M_upOrDown_0 : decode prog_13_method_24_code 0 = .ok (.aload_n 0, 1) := by decide +kernel
theorem d_M_upOrDown_1 : decode prog_13_method_24_code 1 = .ok (.getfield 78, 3) := by decide +kernel
theorem d_M_upOrDown_4 : decode prog_13_method_24_code 4 = .ok (.iconst 4, 1) := by decide +kernel
theorem d_M_upOrDown_5 : decode prog_13_method_24_code 5 = .ok (.if_icmp .ge 4, 3) := by decide +kernel
theorem d_M_upOrDown_8 : decode prog_13_method_24_code 8 = .ok (.return_, 1) := by decide +kernel
theorem d_M_upOrDown_9 : decode prog_13_method_24_code 9 = .ok (.aload_n 0, 1) := by decide +kernel
theorem d_M_upOrDown_10 : decode prog_13_method_24_code 10 = .ok (.invokevirtual 165, 3) := by decide +kernel
theorem d_M_upOrDown_13 : decode prog_13_method_24_code 13 = .ok (.aload_n 0, 1) := by decide +kernel
theorem d_M_upOrDown_14 : decode prog_13_method_24_code 14 = .ok (.getfield 41, 3) := by decide +kernel
theorem d_M_upOrDown_17 : decode prog_13_method_24_code 17 = .ok (.aload_n 0, 1) := by decide +kernel
theorem d_M_upOrDown_18 : decode prog_13_method_24_code 18 = .ok (.getfield 117, 3) := by decide +kernel
theorem d_M_upOrDown_21 : decode prog_13_method_24_code 21 = .ok (.iaload, 1) := by decide +kernel
theorem d_M_upOrDown_22 : decode prog_13_method_24_code 22 = .ok (.iload_n 1, 1) := by decide +kernel
theorem d_M_upOrDown_23 : decode prog_13_method_24_code 23 = .ok (.iadd, 1) := by decide +kernel
theorem d_M_upOrDown_24 : decode prog_13_method_24_code 24 = .ok (.istore_n 2, 1) := by decide +kernel
theorem d_M_upOrDown_25 : decode prog_13_method_24_code 25 = .ok (.aload_n 0, 1) := by decide +kernel
theorem d_M_upOrDown_26 : decode prog_13_method_24_code 26 = .ok (.getfield 20, 3) := by decide +kernel
theorem d_M_upOrDown_29 : decode prog_13_method_24_code 29 = .ok (.ifCond .ge 16, 3) := by decide +kernel
theorem d_M_upOrDown_32 : decode prog_13_method_24_code 32 = .ok (.aload_n 0, 1) := by decide +kernel
theorem d_M_upOrDown_33 : decode prog_13_method_24_code 33 = .ok (.aload_n 0, 1) := by decide +kernel
theorem d_M_upOrDown_34 : decode prog_13_method_24_code 34 = .ok (.getfield 44, 3) := by decide +kernel
theorem d_M_upOrDown_37 : decode prog_13_method_24_code 37 = .ok (.aload_n 0, 1) := by decide +kernel
theorem d_M_upOrDown_38 : decode prog_13_method_24_code 38 = .ok (.getfield 117, 3) := by decide +kernel
theorem d_M_upOrDown_41 : decode prog_13_method_24_code 41 = .ok (.iaload, 1) := by decide +kernel
theorem d_M_upOrDown_42 : decode prog_13_method_24_code 42 = .ok (.putfield 20, 3) := by decide +kernel
theorem d_M_upOrDown_45 : decode prog_13_method_24_code 45 = .ok (.iload_n 2, 1) := by decide +kernel
theorem d_M_upOrDown_46 : decode prog_13_method_24_code 46 = .ok (.ifCond .lt 11, 3) := by decide +kernel
theorem d_M_upOrDown_49 : decode prog_13_method_24_code 49 = .ok (.iload_n 2, 1) := by decide +kernel
theorem d_M_upOrDown_50 : decode prog_13_method_24_code 50 = .ok (.aload_n 0, 1) := by decide +kernel
theorem d_M_upOrDown_51 : decode prog_13_method_24_code 51 = .ok (.getfield 104, 3) := by decide +kernel
theorem d_M_upOrDown_54 : decode prog_13_method_24_code 54 = .ok (.if_icmp .le 4, 3) := by decide +kernel
theorem d_M_upOrDown_57 : decode prog_13_method_24_code 57 = .ok (.return_, 1) := by decide +kernel
theorem d_M_upOrDown_58 : decode prog_13_method_24_code 58 = .ok (.iconst (-1), 1) := by decide +kernel
theorem d_M_upOrDown_59 : decode prog_13_method_24_code 59 = .ok (.istore_n 3, 1) := by decide +kernel
theorem d_M_upOrDown_60 : decode prog_13_method_24_code 60 = .ok (.iconst 0, 1) := by decide +kernel
theorem d_M_upOrDown_61 : decode prog_13_method_24_code 61 = .ok (.istore 4, 2) := by decide +kernel
theorem d_M_upOrDown_63 : decode prog_13_method_24_code 63 = .ok (.iload 4, 2) := by decide +kernel
theorem d_M_upOrDown_65 : decode prog_13_method_24_code 65 = .ok (.aload_n 0, 1) := by decide +kernel
theorem d_M_upOrDown_66 : decode prog_13_method_24_code 66 = .ok (.getfield 87, 3) := by decide +kernel
theorem d_M_upOrDown_69 : decode prog_13_method_24_code 69 = .ok (.if_icmp .gt 62, 3) := by decide +kernel
theorem d_M_upOrDown_72 : decode prog_13_method_24_code 72 = .ok (.aload_n 0, 1) := by decide +kernel
theorem d_M_upOrDown_73 : decode prog_13_method_24_code 73 = .ok (.iload 4, 2) := by decide +kernel
theorem d_M_upOrDown_75 : decode prog_13_method_24_code 75 = .ok (.invokevirtual 94, 3) := by decide +kernel
theorem d_M_upOrDown_78 : decode prog_13_method_24_code 78 = .ok (.ifCond .eq 18, 3) := by decide +kernel
theorem d_M_upOrDown_81 : decode prog_13_method_24_code 81 = .ok (.aload_n 0, 1) := by decide +kernel
theorem d_M_upOrDown_82 : decode prog_13_method_24_code 82 = .ok (.getfield 41, 3) := by decide +kernel
theorem d_M_upOrDown_85 : decode prog_13_method_24_code 85 = .ok (.iload 4, 2) := by decide +kernel
theorem d_M_upOrDown_87 : decode prog_13_method_24_code 87 = .ok (.iaload, 1) := by decide +kernel
theorem d_M_upOrDown_88 : decode prog_13_method_24_code 88 = .ok (.iload_n 2, 1) := by decide +kernel
theorem d_M_upOrDown_89 : decode prog_13_method_24_code 89 = .ok (.if_icmp .ne 7, 3) := by decide +kernel
theorem d_M_upOrDown_92 : decode prog_13_method_24_code 92 = .ok (.iconst 1, 1) := by decide +kernel
theorem d_M_upOrDown_93 : decode prog_13_method_24_code 93 = .ok (.goto 4, 3) := by decide +kernel
theorem d_M_upOrDown_96 : decode prog_13_method_24_code 96 = .ok (.iconst 0, 1) := by decide +kernel
theorem d_M_upOrDown_97 : decode prog_13_method_24_code 97 = .ok (.istore 5, 2) := by decide +kernel
theorem d_M_upOrDown_99 : decode prog_13_method_24_code 99 = .ok (.iload 5, 2) := by decide +kernel
theorem d_M_upOrDown_101 : decode prog_13_method_24_code 101 = .ok (.ifCond .eq 24, 3) := by decide +kernel
theorem d_M_upOrDown_104 : decode prog_13_method_24_code 104 = .ok (.iload_n 3, 1) := by decide +kernel
theorem d_M_upOrDown_105 : decode prog_13_method_24_code 105 = .ok (.ifCond .lt 17, 3) := by decide +kernel
theorem d_M_upOrDown_108 : decode prog_13_method_24_code 108 = .ok (.aload_n 0, 1) := by decide +kernel
theorem d_M_upOrDown_109 : decode prog_13_method_24_code 109 = .ok (.getfield 44, 3) := by decide +kernel
theorem d_M_upOrDown_112 : decode prog_13_method_24_code 112 = .ok (.iload 4, 2) := by decide +kernel
theorem d_M_upOrDown_114 : decode prog_13_method_24_code 114 = .ok (.iaload, 1) := by decide +kernel
theorem d_M_upOrDown_115 : decode prog_13_method_24_code 115 = .ok (.aload_n 0, 1) := by decide +kernel
theorem d_M_upOrDown_116 : decode prog_13_method_24_code 116 = .ok (.getfield 20, 3) := by decide +kernel
theorem d_M_upOrDown_119 : decode prog_13_method_24_code 119 = .ok (.if_icmp .gt 6, 3) := by decide +kernel
theorem d_M_upOrDown_122 : decode prog_13_method_24_code 122 = .ok (.iload 4, 2) := by decide +kernel
theorem d_M_upOrDown_124 : decode prog_13_method_24_code 124 = .ok (.istore_n 3, 1) := by decide +kernel
theorem d_M_upOrDown_125 : decode prog_13_method_24_code 125 = .ok (.iinc 4 1, 3) := by decide +kernel
theorem d_M_upOrDown_128 : decode prog_13_method_24_code 128 = .ok (.goto (-65), 3) := by decide +kernel
theorem d_M_upOrDown_131 : decode prog_13_method_24_code 131 = .ok (.aload_n 0, 1) := by decide +kernel
theorem d_M_upOrDown_132 : decode prog_13_method_24_code 132 = .ok (.iload_n 3, 1) := by decide +kernel
theorem d_M_upOrDown_133 : decode prog_13_method_24_code 133 = .ok (.putfield 117, 3) := by decide +kernel
theorem d_M_upOrDown_136 : decode prog_13_method_24_code 136 = .ok (.return_, 1) := by decide +kernel
theorem d_M_lineBegin_0 : decode prog_13_method_25_code 0 = .ok (.aload_n 0, 1) := by decide +kernel
theorem d_M_lineBegin_1 : decode prog_13_method_25_code 1 = .ok (.getfield 117, 3) := by decide +kernel
theorem d_M_lineBegin_4 : decode prog_13_method_25_code 4 = .ok (.istore_n 1, 1) := by decide +kernel
theorem d_M_lineBegin_5 : decode prog_13_method_25_code 5 = .ok (.iload_n 1, 1) := by decide +kernel
theorem d_M_lineBegin_6 : decode prog_13_method_25_code 6 = .ok (.ifCond .le 22, 3) := by decide +kernel
theorem d_M_lineBegin_9 : decode prog_13_method_25_code 9 = .ok (.aload_n 0, 1) := by decide +kernel
theorem d_M_lineBegin_10 : decode prog_13_method_25_code 10 = .ok (.getfield 7, 3) := by decide +kernel
theorem d_M_lineBegin_13 : decode prog_13_method_25_code 13 = .ok (.iload_n 1, 1) := by decide +kernel
theorem d_M_lineBegin_14 : decode prog_13_method_25_code 14 = .ok (.iconst 1, 1) := by decide +kernel
theorem d_M_lineBegin_15 : decode prog_13_method_25_code 15 = .ok (.isub, 1) := by decide +kernel
theorem d_M_lineBegin_16 : decode prog_13_method_25_code 16 = .ok (.iaload, 1) := by decide +kernel
theorem d_M_lineBegin_17 : decode prog_13_method_25_code 17 = .ok (.bipush 10, 2) := by decide +kernel
theorem d_M_lineBegin_19 : decode prog_13_method_25_code 19 = .ok (.if_icmp .eq 9, 3) := by decide +kernel
theorem d_M_lineBegin_22 : decode prog_13_method_25_code 22 = .ok (.iinc 1 (-1), 3) := by decide +kernel
theorem d_M_lineBegin_25 : decode prog_13_method_25_code 25 = .ok (.goto (-20), 3) := by decide +kernel
theorem d_M_lineBegin_28 : decode prog_13_method_25_code 28 = .ok (.iload_n 1, 1) := by decide +kernel
theorem d_M_lineBegin_29 : decode prog_13_method_25_code 29 = .ok (.ireturn, 1) := by decide +kernel
theorem d_M_lineEnd_0 : decode prog_13_method_26_code 0 = .ok (.aload_n 0, 1) := by decide +kernel
theorem d_M_lineEnd_1 : decode prog_13_method_26_code 1 = .ok (.getfield 117, 3) := by decide +kernel
theorem d_M_lineEnd_4 : decode prog_13_method_26_code 4 = .ok (.istore_n 1, 1) := by decide +kernel
theorem d_M_lineEnd_5 : decode prog_13_method_26_code 5 = .ok (.iload_n 1, 1) := by decide +kernel
theorem d_M_lineEnd_6 : decode prog_13_method_26_code 6 = .ok (.aload_n 0, 1) := by decide +kernel
theorem d_M_lineEnd_7 : decode prog_13_method_26_code 7 = .ok (.getfield 87, 3) := by decide +kernel
theorem d_M_lineEnd_10 : decode prog_13_method_26_code 10 = .ok (.if_icmp .ge 20, 3) := by decide +kernel
theorem d_M_lineEnd_13 : decode prog_13_method_26_code 13 = .ok (.aload_n 0, 1) := by decide +kernel
theorem d_M_lineEnd_14 : decode prog_13_method_26_code 14 = .ok (.getfield 7, 3) := by decide +kernel
theorem d_M_lineEnd_17 : decode prog_13_method_26_code 17 = .ok (.iload_n 1, 1) := by decide +kernel
theorem d_M_lineEnd_18 : decode prog_13_method_26_code 18 = .ok (.iaload, 1) := by decide +kernel
theorem d_M_lineEnd_19 : decode prog_13_method_26_code 19 = .ok (.bipush 10, 2) := by decide +kernel
theorem d_M_lineEnd_21 : decode prog_13_method_26_code 21 = .ok (.if_icmp .eq 9, 3) := by decide +kernel
theorem d_M_lineEnd_24 : decode prog_13_method_26_code 24 = .ok (.iinc 1 1, 3) := by decide +kernel
theorem d_M_lineEnd_27 : decode prog_13_method_26_code 27 = .ok (.goto (-22), 3) := by decide +kernel
theorem d_M_lineEnd_30 : decode prog_13_method_26_code 30 = .ok (.iload_n 1, 1) := by decide +kernel
theorem d_M_lineEnd_31 : decode prog_13_method_26_code 31 = .ok (.ireturn, 1) := by decide +kernel
theorem d_M_finish_0 : decode prog_13_method_27_code 0 = .ok (.iload_n 1, 1) := by decide +kernel
theorem d_M_finish_1 : decode prog_13_method_27_code 1 = .ok (.bipush 126, 2) := by decide +kernel
theorem d_M_finish_3 : decode prog_13_method_27_code 3 = .ok (.if_icmp .ne 17, 3) := by decide +kernel
theorem d_M_finish_6 : decode prog_13_method_27_code 6 = .ok (.aload_n 0, 1) := by decide +kernel
theorem d_M_finish_7 : decode prog_13_method_27_code 7 = .ok (.getfield 168, 3) := by decide +kernel
theorem d_M_finish_10 : decode prog_13_method_27_code 10 = .ok (.sipush 201, 3) := by decide +kernel
theorem d_M_finish_13 : decode prog_13_method_27_code 13 = .ok (.if_icmp .ne 7, 3) := by decide +kernel
theorem d_M_finish_16 : decode prog_13_method_27_code 16 = .ok (.iconst 1, 1) := by decide +kernel
theorem d_M_finish_17 : decode prog_13_method_27_code 17 = .ok (.goto 4, 3) := by decide +kernel
theorem d_M_finish_20 : decode prog_13_method_27_code 20 = .ok (.iconst 0, 1) := by decide +kernel
theorem d_M_finish_21 : decode prog_13_method_27_code 21 = .ok (.istore_n 2, 1) := by decide +kernel
theorem d_M_finish_22 : decode prog_13_method_27_code 22 = .ok (.aload_n 0, 1) := by decide +kernel
theorem d_M_finish_23 : decode prog_13_method_27_code 23 = .ok (.getfield 147, 3) := by decide +kernel
theorem d_M_finish_26 : decode prog_13_method_27_code 26 = .ok (.ifCond .eq 8, 3) := by decide +kernel
theorem d_M_finish_29 : decode prog_13_method_27_code 29 = .ok (.iload_n 2, 1) := by decide +kernel
theorem d_M_finish_30 : decode prog_13_method_27_code 30 = .ok (.ifCond .ne 4, 3) := by decide +kernel
theorem d_M_finish_33 : decode prog_13_method_27_code 33 = .ok (.return_, 1) := by decide +kernel
theorem d_M_finish_34 : decode prog_13_method_27_code 34 = .ok (.iload_n 1, 1) := by decide +kernel
theorem d_M_finish_35 : decode prog_13_method_27_code 35 = .ok (.bipush 65, 2) := by decide +kernel
theorem d_M_finish_37 : decode prog_13_method_27_code 37 = .ok (.if_icmp .eq 9, 3) := by decide +kernel
theorem d_M_finish_40 : decode prog_13_method_27_code 40 = .ok (.iload_n 1, 1) := by decide +kernel
theorem d_M_finish_41 : decode prog_13_method_27_code 41 = .ok (.bipush 66, 2) := by decide +kernel
theorem d_M_finish_43 : decode prog_13_method_27_code 43 = .ok (.if_icmp .ne 19, 3) := by decide +kernel
theorem d_M_finish_46 : decode prog_13_method_27_code 46 = .ok (.aload_n 0, 1) := by decide +kernel
theorem d_M_finish_47 : decode prog_13_method_27_code 47 = .ok (.iload_n 1, 1) := by decide +kernel
theorem d_M_finish_48 : decode prog_13_method_27_code 48 = .ok (.bipush 65, 2) := by decide +kernel
theorem d_M_finish_50 : decode prog_13_method_27_code 50 = .ok (.if_icmp .ne 7, 3) := by decide +kernel
theorem d_M_finish_53 : decode prog_13_method_27_code 53 = .ok (.iconst (-1), 1) := by decide +kernel
theorem d_M_finish_54 : decode prog_13_method_27_code 54 = .ok (.goto 4, 3) := by decide +kernel
theorem d_M_finish_57 : decode prog_13_method_27_code 57 = .ok (.iconst 1, 1) := by decide +kernel
theorem d_M_finish_58 : decode prog_13_method_27_code 58 = .ok (.invokevirtual 171, 3) := by decide +kernel
theorem d_M_finish_61 : decode prog_13_method_27_code 61 = .ok (.return_, 1) := by decide +kernel
theorem d_M_finish_62 : decode prog_13_method_27_code 62 = .ok (.iload_n 1, 1) := by decide +kernel
theorem d_M_finish_63 : decode prog_13_method_27_code 63 = .ok (.bipush 67, 2) := by decide +kernel
theorem d_M_finish_65 : decode prog_13_method_27_code 65 = .ok (.if_icmp .eq 55, 3) := by decide +kernel
theorem d_M_finish_68 : decode prog_13_method_27_code 68 = .ok (.iload_n 1, 1) := by decide +kernel
theorem d_M_finish_69 : decode prog_13_method_27_code 69 = .ok (.bipush 68, 2) := by decide +kernel
theorem d_M_finish_71 : decode prog_13_method_27_code 71 = .ok (.if_icmp .eq 49, 3) := by decide +kernel
theorem d_M_finish_74 : decode prog_13_method_27_code 74 = .ok (.iload_n 1, 1) := by decide +kernel
theorem d_M_finish_75 : decode prog_13_method_27_code 75 = .ok (.bipush 72, 2) := by decide +kernel
theorem d_M_finish_77 : decode prog_13_method_27_code 77 = .ok (.if_icmp .eq 43, 3) := by decide +kernel
theorem d_M_finish_80 : decode prog_13_method_27_code 80 = .ok (.iload_n 1, 1) := by decide +kernel
theorem d_M_finish_81 : decode prog_13_method_27_code 81 = .ok (.bipush 70, 2) := by decide +kernel
theorem d_M_finish_83 : decode prog_13_method_27_code 83 = .ok (.if_icmp .eq 37, 3) := by decide +kernel
theorem d_M_finish_86 : decode prog_13_method_27_code 86 = .ok (.iload_n 1, 1) := by decide +kernel
theorem d_M_finish_87 : decode prog_13_method_27_code 87 = .ok (.bipush 126, 2) := by decide +kernel
theorem d_M_finish_89 : decode prog_13_method_27_code 89 = .ok (.if_icmp .ne 35, 3) := by decide +kernel
theorem d_M_finish_92 : decode prog_13_method_27_code 92 = .ok (.aload_n 0, 1) := by decide +kernel
theorem d_M_finish_93 : decode prog_13_method_27_code 93 = .ok (.getfield 168, 3) := by decide +kernel
theorem d_M_finish_96 : decode prog_13_method_27_code 96 = .ok (.iconst 3, 1) := by decide +kernel
theorem d_M_finish_97 : decode prog_13_method_27_code 97 = .ok (.if_icmp .eq 23, 3) := by decide +kernel
theorem d_M_finish_100 : decode prog_13_method_27_code 100 = .ok (.aload_n 0, 1) := by decide +kernel
theorem d_M_finish_101 : decode prog_13_method_27_code 101 = .ok (.getfield 168, 3) := by decide +kernel
theorem d_M_finish_104 : decode prog_13_method_27_code 104 = .ok (.sipush 200, 3) := by decide +kernel
theorem d_M_finish_107 : decode prog_13_method_27_code 107 = .ok (.if_icmp .eq 13, 3) := by decide +kernel
theorem d_M_finish_110 : decode prog_13_method_27_code 110 = .ok (.aload_n 0, 1) := by decide +kernel
theorem d_M_finish_111 : decode prog_13_method_27_code 111 = .ok (.getfield 168, 3) := by decide +kernel
theorem d_M_finish_114 : decode prog_13_method_27_code 114 = .ok (.sipush 201, 3) := by decide +kernel
theorem d_M_finish_117 : decode prog_13_method_27_code 117 = .ok (.if_icmp .ne 7, 3) := by decide +kernel
theorem d_M_finish_120 : decode prog_13_method_27_code 120 = .ok (.iconst 1, 1) := by decide +kernel
theorem d_M_finish_121 : decode prog_13_method_27_code 121 = .ok (.goto 4, 3) := by decide +kernel
theorem d_M_finish_124 : decode prog_13_method_27_code 124 = .ok (.iconst 0, 1) := by decide +kernel
theorem d_M_finish_125 : decode prog_13_method_27_code 125 = .ok (.istore_n 3, 1) := by decide +kernel
theorem d_M_finish_126 : decode prog_13_method_27_code 126 = .ok (.iload_n 3, 1) := by decide +kernel
theorem d_M_finish_127 : decode prog_13_method_27_code 127 = .ok (.ifCond .ne 4, 3) := by decide +kernel
theorem d_M_finish_130 : decode prog_13_method_27_code 130 = .ok (.return_, 1) := by decide +kernel
theorem d_M_finish_131 : decode prog_13_method_27_code 131 = .ok (.aload_n 0, 1) := by decide +kernel
theorem d_M_finish_132 : decode prog_13_method_27_code 132 = .ok (.iconst (-1), 1) := by decide +kernel
theorem d_M_finish_133 : decode prog_13_method_27_code 133 = .ok (.putfield 20, 3) := by decide +kernel
theorem d_M_finish_136 : decode prog_13_method_27_code 136 = .ok (.iload_n 1, 1) := by decide +kernel
theorem d_M_finish_137 : decode prog_13_method_27_code 137 = .ok (.bipush 67, 2) := by decide +kernel
theorem d_M_finish_139 : decode prog_13_method_27_code 139 = .ok (.if_icmp .ne 26, 3) := by decide +kernel
theorem d_M_finish_142 : decode prog_13_method_27_code 142 = .ok (.aload_n 0, 1) := by decide +kernel
theorem d_M_finish_143 : decode prog_13_method_27_code 143 = .ok (.getfield 117, 3) := by decide +kernel
theorem d_M_finish_146 : decode prog_13_method_27_code 146 = .ok (.aload_n 0, 1) := by decide +kernel
theorem d_M_finish_147 : decode prog_13_method_27_code 147 = .ok (.getfield 87, 3) := by decide +kernel
theorem d_M_finish_150 : decode prog_13_method_27_code 150 = .ok (.if_icmp .ge 15, 3) := by decide +kernel
theorem d_M_finish_153 : decode prog_13_method_27_code 153 = .ok (.aload_n 0, 1) := by decide +kernel
theorem d_M_finish_154 : decode prog_13_method_27_code 154 = .ok (.aload_n 0, 1) := by decide +kernel
theorem d_M_finish_155 : decode prog_13_method_27_code 155 = .ok (.aload_n 0, 1) := by decide +kernel
theorem d_M_finish_156 : decode prog_13_method_27_code 156 = .ok (.getfield 117, 3) := by decide +kernel
theorem d_M_finish_159 : decode prog_13_method_27_code 159 = .ok (.invokevirtual 107, 3) := by decide +kernel
theorem d_M_finish_162 : decode prog_13_method_27_code 162 = .ok (.putfield 117, 3) := by decide +kernel
theorem d_M_finish_165 : decode prog_13_method_27_code 165 = .ok (.iload_n 1, 1) := by decide +kernel
theorem d_M_finish_166 : decode prog_13_method_27_code 166 = .ok (.bipush 68, 2) := by decide +kernel
theorem d_M_finish_168 : decode prog_13_method_27_code 168 = .ok (.if_icmp .ne 22, 3) := by decide +kernel
theorem d_M_finish_171 : decode prog_13_method_27_code 171 = .ok (.aload_n 0, 1) := by decide +kernel
theorem d_M_finish_172 : decode prog_13_method_27_code 172 = .ok (.getfield 117, 3) := by decide +kernel
theorem d_M_finish_175 : decode prog_13_method_27_code 175 = .ok (.ifCond .le 15, 3) := by decide +kernel
theorem d_M_finish_178 : decode prog_13_method_27_code 178 = .ok (.aload_n 0, 1) := by decide +kernel
theorem d_M_finish_179 : decode prog_13_method_27_code 179 = .ok (.aload_n 0, 1) := by decide +kernel
theorem d_M_finish_180 : decode prog_13_method_27_code 180 = .ok (.aload_n 0, 1) := by decide +kernel
theorem d_M_finish_181 : decode prog_13_method_27_code 181 = .ok (.getfield 117, 3) := by decide +kernel
theorem d_M_finish_184 : decode prog_13_method_27_code 184 = .ok (.invokevirtual 162, 3) := by decide +kernel
theorem d_M_finish_187 : decode prog_13_method_27_code 187 = .ok (.putfield 117, 3) := by decide +kernel
theorem d_M_finish_190 : decode prog_13_method_27_code 190 = .ok (.iload_n 1, 1) := by decide +kernel
theorem d_M_finish_191 : decode prog_13_method_27_code 191 = .ok (.bipush 72, 2) := by decide +kernel
theorem d_M_finish_193 : decode prog_13_method_27_code 193 = .ok (.if_icmp .ne 11, 3) := by decide +kernel
theorem d_M_finish_196 : decode prog_13_method_27_code 196 = .ok (.aload_n 0, 1) := by decide +kernel
theorem d_M_finish_197 : decode prog_13_method_27_code 197 = .ok (.aload_n 0, 1) := by decide +kernel
theorem d_M_finish_198 : decode prog_13_method_27_code 198 = .ok (.invokevirtual 174, 3) := by decide +kernel
theorem d_M_finish_201 : decode prog_13_method_27_code 201 = .ok (.putfield 117, 3) := by decide +kernel
theorem d_M_finish_204 : decode prog_13_method_27_code 204 = .ok (.iload_n 1, 1) := by decide +kernel
theorem d_M_finish_205 : decode prog_13_method_27_code 205 = .ok (.bipush 70, 2) := by decide +kernel
theorem d_M_finish_207 : decode prog_13_method_27_code 207 = .ok (.if_icmp .ne 11, 3) := by decide +kernel
theorem d_M_finish_210 : decode prog_13_method_27_code 210 = .ok (.aload_n 0, 1) := by decide +kernel
theorem d_M_finish_211 : decode prog_13_method_27_code 211 = .ok (.aload_n 0, 1) := by decide +kernel
theorem d_M_finish_212 : decode prog_13_method_27_code 212 = .ok (.invokevirtual 178, 3) := by decide +kernel
theorem d_M_finish_215 : decode prog_13_method_27_code 215 = .ok (.putfield 117, 3) := by decide +kernel
theorem d_M_finish_218 : decode prog_13_method_27_code 218 = .ok (.iload_n 1, 1) := by decide +kernel
theorem d_M_finish_219 : decode prog_13_method_27_code 219 = .ok (.bipush 126, 2) := by decide +kernel
theorem d_M_finish_221 : decode prog_13_method_27_code 221 = .ok (.if_icmp .ne 38, 3) := by decide +kernel
theorem d_M_finish_224 : decode prog_13_method_27_code 224 = .ok (.aload_n 0, 1) := by decide +kernel
theorem d_M_finish_225 : decode prog_13_method_27_code 225 = .ok (.getfield 168, 3) := by decide +kernel
theorem d_M_finish_228 : decode prog_13_method_27_code 228 = .ok (.iconst 3, 1) := by decide +kernel
theorem d_M_finish_229 : decode prog_13_method_27_code 229 = .ok (.if_icmp .ne 30, 3) := by decide +kernel
theorem d_M_finish_232 : decode prog_13_method_27_code 232 = .ok (.aload_n 0, 1) := by decide +kernel
theorem d_M_finish_233 : decode prog_13_method_27_code 233 = .ok (.getfield 117, 3) := by decide +kernel
theorem d_M_finish_236 : decode prog_13_method_27_code 236 = .ok (.aload_n 0, 1) := by decide +kernel
theorem d_M_finish_237 : decode prog_13_method_27_code 237 = .ok (.getfield 87, 3) := by decide +kernel
theorem d_M_finish_240 : decode prog_13_method_27_code 240 = .ok (.if_icmp .ge 19, 3) := by decide +kernel
theorem d_M_finish_243 : decode prog_13_method_27_code 243 = .ok (.aload_n 0, 1) := by decide +kernel
theorem d_M_finish_244 : decode prog_13_method_27_code 244 = .ok (.aload_n 0, 1) := by decide +kernel
theorem d_M_finish_245 : decode prog_13_method_27_code 245 = .ok (.getfield 117, 3) := by decide +kernel
theorem d_M_finish_248 : decode prog_13_method_27_code 248 = .ok (.aload_n 0, 1) := by decide +kernel
theorem d_M_finish_249 : decode prog_13_method_27_code 249 = .ok (.aload_n 0, 1) := by decide +kernel
theorem d_M_finish_250 : decode prog_13_method_27_code 250 = .ok (.getfield 117, 3) := by decide +kernel
theorem d_M_finish_253 : decode prog_13_method_27_code 253 = .ok (.invokevirtual 107, 3) := by decide +kernel
theorem d_M_finish_256 : decode prog_13_method_27_code 256 = .ok (.invokevirtual 138, 3) := by decide +kernel
theorem d_M_finish_259 : decode prog_13_method_27_code 259 = .ok (.iload_n 1, 1) := by decide +kernel
theorem d_M_finish_260 : decode prog_13_method_27_code 260 = .ok (.bipush 126, 2) := by decide +kernel
theorem d_M_finish_262 : decode prog_13_method_27_code 262 = .ok (.if_icmp .ne 30, 3) := by decide +kernel
theorem d_M_finish_265 : decode prog_13_method_27_code 265 = .ok (.aload_n 0, 1) := by decide +kernel
theorem d_M_finish_266 : decode prog_13_method_27_code 266 = .ok (.getfield 168, 3) := by decide +kernel
theorem d_M_finish_269 : decode prog_13_method_27_code 269 = .ok (.iconst 3, 1) := by decide +kernel
theorem d_M_finish_270 : decode prog_13_method_27_code 270 = .ok (.if_icmp .le 22, 3) := by decide +kernel
theorem d_M_finish_273 : decode prog_13_method_27_code 273 = .ok (.aload_n 0, 1) := by decide +kernel
theorem d_M_finish_274 : decode prog_13_method_27_code 274 = .ok (.aload_n 0, 1) := by decide +kernel
theorem d_M_finish_275 : decode prog_13_method_27_code 275 = .ok (.getfield 168, 3) := by decide +kernel
theorem d_M_finish_278 : decode prog_13_method_27_code 278 = .ok (.sipush 200, 3) := by decide +kernel
theorem d_M_finish_281 : decode prog_13_method_27_code 281 = .ok (.if_icmp .ne 7, 3) := by decide +kernel
theorem d_M_finish_284 : decode prog_13_method_27_code 284 = .ok (.iconst 1, 1) := by decide +kernel
theorem d_M_finish_285 : decode prog_13_method_27_code 285 = .ok (.goto 4, 3) := by decide +kernel
theorem d_M_finish_288 : decode prog_13_method_27_code 288 = .ok (.iconst 0, 1) := by decide +kernel
theorem d_M_finish_289 : decode prog_13_method_27_code 289 = .ok (.putfield 147, 3) := by decide +kernel
theorem d_M_finish_292 : decode prog_13_method_27_code 292 = .ok (.return_, 1) := by decide +kernel
theorem d_M_plain_0 : decode prog_13_method_28_code 0 = .ok (.iload_n 1, 1) := by decide +kernel
theorem d_M_plain_1 : decode prog_13_method_28_code 1 = .ok (.bipush 27, 2) := by decide +kernel
theorem d_M_plain_3 : decode prog_13_method_28_code 3 = .ok (.if_icmp .ne 11, 3) := by decide +kernel
theorem d_M_plain_6 : decode prog_13_method_28_code 6 = .ok (.aload_n 0, 1) := by decide +kernel
theorem d_M_plain_7 : decode prog_13_method_28_code 7 = .ok (.iconst 1, 1) := by decide +kernel
theorem d_M_plain_8 : decode prog_13_method_28_code 8 = .ok (.putfield 181, 3) := by decide +kernel
theorem d_M_plain_11 : decode prog_13_method_28_code 11 = .ok (.goto 140, 3) := by decide +kernel
theorem d_M_plain_14 : decode prog_13_method_28_code 14 = .ok (.iload_n 1, 1) := by decide +kernel
theorem d_M_plain_15 : decode prog_13_method_28_code 15 = .ok (.bipush 32, 2) := by decide +kernel
theorem d_M_plain_17 : decode prog_13_method_28_code 17 = .ok (.if_icmp .lt 17, 3) := by decide +kernel
theorem d_M_plain_20 : decode prog_13_method_28_code 20 = .ok (.iload_n 1, 1) := by decide +kernel
theorem d_M_plain_21 : decode prog_13_method_28_code 21 = .ok (.bipush 126, 2) := by decide +kernel
theorem d_M_plain_23 : decode prog_13_method_28_code 23 = .ok (.if_icmp .gt 11, 3) := by decide +kernel
theorem d_M_plain_26 : decode prog_13_method_28_code 26 = .ok (.aload_n 0, 1) := by decide +kernel
theorem d_M_plain_27 : decode prog_13_method_28_code 27 = .ok (.iload_n 1, 1) := by decide +kernel
theorem d_M_plain_28 : decode prog_13_method_28_code 28 = .ok (.invokevirtual 144, 3) := by decide +kernel
theorem d_M_plain_31 : decode prog_13_method_28_code 31 = .ok (.goto 120, 3) := by decide +kernel
theorem d_M_plain_34 : decode prog_13_method_28_code 34 = .ok (.iload_n 1, 1) := by decide +kernel
theorem d_M_plain_35 : decode prog_13_method_28_code 35 = .ok (.sipush 194, 3) := by decide +kernel
theorem d_M_plain_38 : decode prog_13_method_28_code 38 = .ok (.if_icmp .lt 91, 3) := by decide +kernel
theorem d_M_plain_41 : decode prog_13_method_28_code 41 = .ok (.iload_n 1, 1) := by decide +kernel
theorem d_M_plain_42 : decode prog_13_method_28_code 42 = .ok (.sipush 239, 3) := by decide +kernel
theorem d_M_plain_45 : decode prog_13_method_28_code 45 = .ok (.if_icmp .gt 84, 3) := by decide +kernel
theorem d_M_plain_48 : decode prog_13_method_28_code 48 = .ok (.aload_n 0, 1) := by decide +kernel
theorem d_M_plain_49 : decode prog_13_method_28_code 49 = .ok (.iload_n 1, 1) := by decide +kernel
theorem d_M_plain_50 : decode prog_13_method_28_code 50 = .ok (.sipush 224, 3) := by decide +kernel
theorem d_M_plain_53 : decode prog_13_method_28_code 53 = .ok (.if_icmp .ge 7, 3) := by decide +kernel
theorem d_M_plain_56 : decode prog_13_method_28_code 56 = .ok (.iconst 1, 1) := by decide +kernel
theorem d_M_plain_57 : decode prog_13_method_28_code 57 = .ok (.goto 4, 3) := by decide +kernel
theorem d_M_plain_60 : decode prog_13_method_28_code 60 = .ok (.iconst 2, 1) := by decide +kernel
theorem d_M_plain_61 : decode prog_13_method_28_code 61 = .ok (.putfield 184, 3) := by decide +kernel
theorem d_M_plain_64 : decode prog_13_method_28_code 64 = .ok (.aload_n 0, 1) := by decide +kernel
theorem d_M_plain_65 : decode prog_13_method_28_code 65 = .ok (.iload_n 1, 1) := by decide +kernel
theorem d_M_plain_66 : decode prog_13_method_28_code 66 = .ok (.sipush 224, 3) := by decide +kernel
theorem d_M_plain_69 : decode prog_13_method_28_code 69 = .ok (.if_icmp .ge 10, 3) := by decide +kernel
theorem d_M_plain_72 : decode prog_13_method_28_code 72 = .ok (.iload_n 1, 1) := by decide +kernel
theorem d_M_plain_73 : decode prog_13_method_28_code 73 = .ok (.bipush 31, 2) := by decide +kernel
theorem d_M_plain_75 : decode prog_13_method_28_code 75 = .ok (.iand, 1) := by decide +kernel
theorem d_M_plain_76 : decode prog_13_method_28_code 76 = .ok (.goto 7, 3) := by decide +kernel
theorem d_M_plain_79 : decode prog_13_method_28_code 79 = .ok (.iload_n 1, 1) := by decide +kernel
theorem d_M_plain_80 : decode prog_13_method_28_code 80 = .ok (.bipush 15, 2) := by decide +kernel
theorem d_M_plain_82 : decode prog_13_method_28_code 82 = .ok (.iand, 1) := by decide +kernel
theorem d_M_plain_83 : decode prog_13_method_28_code 83 = .ok (.putfield 187, 3) := by decide +kernel
theorem d_M_plain_86 : decode prog_13_method_28_code 86 = .ok (.aload_n 0, 1) := by decide +kernel
theorem d_M_plain_87 : decode prog_13_method_28_code 87 = .ok (.iload_n 1, 1) := by decide +kernel
theorem d_M_plain_88 : decode prog_13_method_28_code 88 = .ok (.sipush 224, 3) := by decide +kernel
theorem d_M_plain_91 : decode prog_13_method_28_code 91 = .ok (.if_icmp .ne 9, 3) := by decide +kernel
theorem d_M_plain_94 : decode prog_13_method_28_code 94 = .ok (.sipush 160, 3) := by decide +kernel
theorem d_M_plain_97 : decode prog_13_method_28_code 97 = .ok (.goto 6, 3) := by decide +kernel
theorem d_M_plain_100 : decode prog_13_method_28_code 100 = .ok (.sipush 128, 3) := by decide +kernel
theorem d_M_plain_103 : decode prog_13_method_28_code 103 = .ok (.putfield 190, 3) := by decide +kernel
theorem d_M_plain_106 : decode prog_13_method_28_code 106 = .ok (.aload_n 0, 1) := by decide +kernel
theorem d_M_plain_107 : decode prog_13_method_28_code 107 = .ok (.iload_n 1, 1) := by decide +kernel
theorem d_M_plain_108 : decode prog_13_method_28_code 108 = .ok (.sipush 237, 3) := by decide +kernel
theorem d_M_plain_111 : decode prog_13_method_28_code 111 = .ok (.if_icmp .ne 9, 3) := by decide +kernel
theorem d_M_plain_114 : decode prog_13_method_28_code 114 = .ok (.sipush 159, 3) := by decide +kernel
theorem d_M_plain_117 : decode prog_13_method_28_code 117 = .ok (.goto 6, 3) := by decide +kernel
theorem d_M_plain_120 : decode prog_13_method_28_code 120 = .ok (.sipush 191, 3) := by decide +kernel
theorem d_M_plain_123 : decode prog_13_method_28_code 123 = .ok (.putfield 193, 3) := by decide +kernel
theorem d_M_plain_126 : decode prog_13_method_28_code 126 = .ok (.goto 25, 3) := by decide +kernel
theorem d_M_plain_129 : decode prog_13_method_28_code 129 = .ok (.iload_n 1, 1) := by decide +kernel
theorem d_M_plain_130 : decode prog_13_method_28_code 130 = .ok (.sipush 128, 3) := by decide +kernel
theorem d_M_plain_133 : decode prog_13_method_28_code 133 = .ok (.if_icmp .lt 12, 3) := by decide +kernel
theorem d_M_plain_136 : decode prog_13_method_28_code 136 = .ok (.aload_n 0, 1) := by decide +kernel
theorem d_M_plain_137 : decode prog_13_method_28_code 137 = .ok (.ldc 196, 2) := by decide +kernel
theorem d_M_plain_139 : decode prog_13_method_28_code 139 = .ok (.invokevirtual 144, 3) := by decide +kernel
theorem d_M_plain_142 : decode prog_13_method_28_code 142 = .ok (.goto 9, 3) := by decide +kernel
theorem d_M_plain_145 : decode prog_13_method_28_code 145 = .ok (.aload_n 0, 1) := by decide +kernel
theorem d_M_plain_146 : decode prog_13_method_28_code 146 = .ok (.iload_n 1, 1) := by decide +kernel
theorem d_M_plain_147 : decode prog_13_method_28_code 147 = .ok (.iload_n 2, 1) := by decide +kernel
theorem d_M_plain_148 : decode prog_13_method_28_code 148 = .ok (.invokevirtual 197, 3) := by decide +kernel
theorem d_M_plain_151 : decode prog_13_method_28_code 151 = .ok (.return_, 1) := by decide +kernel
theorem d_M_within_0 : decode prog_13_method_29_code 0 = .ok (.iload_n 1, 1) := by decide +kernel
theorem d_M_within_1 : decode prog_13_method_29_code 1 = .ok (.aload_n 0, 1) := by decide +kernel
theorem d_M_within_2 : decode prog_13_method_29_code 2 = .ok (.getfield 190, 3) := by decide +kernel
theorem d_M_within_5 : decode prog_13_method_29_code 5 = .ok (.if_icmp .lt 11, 3) := by decide +kernel
theorem d_M_within_8 : decode prog_13_method_29_code 8 = .ok (.iload_n 1, 1) := by decide +kernel
theorem d_M_within_9 : decode prog_13_method_29_code 9 = .ok (.aload_n 0, 1) := by decide +kernel
theorem d_M_within_10 : decode prog_13_method_29_code 10 = .ok (.getfield 193, 3) := by decide +kernel
theorem d_M_within_13 : decode prog_13_method_29_code 13 = .ok (.if_icmp .le 21, 3) := by decide +kernel
theorem d_M_within_16 : decode prog_13_method_29_code 16 = .ok (.aload_n 0, 1) := by decide +kernel
theorem d_M_within_17 : decode prog_13_method_29_code 17 = .ok (.iconst 0, 1) := by decide +kernel
theorem d_M_within_18 : decode prog_13_method_29_code 18 = .ok (.putfield 184, 3) := by decide +kernel
theorem d_M_within_21 : decode prog_13_method_29_code 21 = .ok (.aload_n 0, 1) := by decide +kernel
theorem d_M_within_22 : decode prog_13_method_29_code 22 = .ok (.ldc 196, 2) := by decide +kernel
theorem d_M_within_24 : decode prog_13_method_29_code 24 = .ok (.invokevirtual 144, 3) := by decide +kernel
theorem d_M_within_27 : decode prog_13_method_29_code 27 = .ok (.aload_n 0, 1) := by decide +kernel
theorem d_M_within_28 : decode prog_13_method_29_code 28 = .ok (.iload_n 1, 1) := by decide +kernel
theorem d_M_within_29 : decode prog_13_method_29_code 29 = .ok (.iload_n 2, 1) := by decide +kernel
theorem d_M_within_30 : decode prog_13_method_29_code 30 = .ok (.invokevirtual 200, 3) := by decide +kernel
theorem d_M_within_33 : decode prog_13_method_29_code 33 = .ok (.return_, 1) := by decide +kernel
theorem d_M_within_34 : decode prog_13_method_29_code 34 = .ok (.aload_n 0, 1) := by decide +kernel
theorem d_M_within_35 : decode prog_13_method_29_code 35 = .ok (.aload_n 0, 1) := by decide +kernel
theorem d_M_within_36 : decode prog_13_method_29_code 36 = .ok (.getfield 187, 3) := by decide +kernel
theorem d_M_within_39 : decode prog_13_method_29_code 39 = .ok (.bipush 6, 2) := by decide +kernel
theorem d_M_within_41 : decode prog_13_method_29_code 41 = .ok (.ishl, 1) := by decide +kernel
theorem d_M_within_42 : decode prog_13_method_29_code 42 = .ok (.iload_n 1, 1) := by decide +kernel
theorem d_M_within_43 : decode prog_13_method_29_code 43 = .ok (.bipush 63, 2) := by decide +kernel
theorem d_M_within_45 : decode prog_13_method_29_code 45 = .ok (.iand, 1) := by decide +kernel
theorem d_M_within_46 : decode prog_13_method_29_code 46 = .ok (.ior, 1) := by decide +kernel
theorem d_M_within_47 : decode prog_13_method_29_code 47 = .ok (.putfield 187, 3) := by decide +kernel
theorem d_M_within_50 : decode prog_13_method_29_code 50 = .ok (.aload_n 0, 1) := by decide +kernel
theorem d_M_within_51 : decode prog_13_method_29_code 51 = .ok (.sipush 128, 3) := by decide +kernel
theorem d_M_within_54 : decode prog_13_method_29_code 54 = .ok (.putfield 190, 3) := by decide +kernel
theorem d_M_within_57 : decode prog_13_method_29_code 57 = .ok (.aload_n 0, 1) := by decide +kernel
theorem d_M_within_58 : decode prog_13_method_29_code 58 = .ok (.sipush 191, 3) := by decide +kernel
theorem d_M_within_61 : decode prog_13_method_29_code 61 = .ok (.putfield 193, 3) := by decide +kernel
theorem d_M_within_64 : decode prog_13_method_29_code 64 = .ok (.aload_n 0, 1) := by decide +kernel
theorem d_M_within_65 : decode prog_13_method_29_code 65 = .ok (.dup, 1) := by decide +kernel
theorem d_M_within_66 : decode prog_13_method_29_code 66 = .ok (.getfield 184, 3) := by decide +kernel
theorem d_M_within_69 : decode prog_13_method_29_code 69 = .ok (.iconst 1, 1) := by decide +kernel
theorem d_M_within_70 : decode prog_13_method_29_code 70 = .ok (.isub, 1) := by decide +kernel
theorem d_M_within_71 : decode prog_13_method_29_code 71 = .ok (.putfield 184, 3) := by decide +kernel
theorem d_M_within_74 : decode prog_13_method_29_code 74 = .ok (.aload_n 0, 1) := by decide +kernel
theorem d_M_within_75 : decode prog_13_method_29_code 75 = .ok (.getfield 184, 3) := by decide +kernel
theorem d_M_within_78 : decode prog_13_method_29_code 78 = .ok (.ifCond .ne 31, 3) := by decide +kernel
theorem d_M_within_81 : decode prog_13_method_29_code 81 = .ok (.aload_n 0, 1) := by decide +kernel
theorem d_M_within_82 : decode prog_13_method_29_code 82 = .ok (.getfield 187, 3) := by decide +kernel
theorem d_M_within_85 : decode prog_13_method_29_code 85 = .ok (.sipush 128, 3) := by decide +kernel
theorem d_M_within_88 : decode prog_13_method_29_code 88 = .ok (.if_icmp .lt 13, 3) := by decide +kernel
theorem d_M_within_91 : decode prog_13_method_29_code 91 = .ok (.aload_n 0, 1) := by decide +kernel
theorem d_M_within_92 : decode prog_13_method_29_code 92 = .ok (.getfield 187, 3) := by decide +kernel
theorem d_M_within_95 : decode prog_13_method_29_code 95 = .ok (.sipush 159, 3) := by decide +kernel
theorem d_M_within_98 : decode prog_13_method_29_code 98 = .ok (.if_icmp .le 11, 3) := by decide +kernel
theorem d_M_within_101 : decode prog_13_method_29_code 101 = .ok (.aload_n 0, 1) := by decide +kernel
theorem d_M_within_102 : decode prog_13_method_29_code 102 = .ok (.aload_n 0, 1) := by decide +kernel
theorem d_M_within_103 : decode prog_13_method_29_code 103 = .ok (.getfield 187, 3) := by decide +kernel
theorem d_M_within_106 : decode prog_13_method_29_code 106 = .ok (.invokevirtual 144, 3) := by decide +kernel
theorem d_M_within_109 : decode prog_13_method_29_code 109 = .ok (.return_, 1) := by decide +kernel
theorem d_M_inSequence_0 : decode prog_13_method_30_code 0 = .ok (.iload_n 1, 1) := by decide +kernel
theorem d_M_inSequence_1 : decode prog_13_method_30_code 1 = .ok (.bipush 48, 2) := by decide +kernel
theorem d_M_inSequence_3 : decode prog_13_method_30_code 3 = .ok (.if_icmp .lt 52, 3) := by decide +kernel
theorem d_M_inSequence_6 : decode prog_13_method_30_code 6 = .ok (.iload_n 1, 1) := by decide +kernel
theorem d_M_inSequence_7 : decode prog_13_method_30_code 7 = .ok (.bipush 57, 2) := by decide +kernel
theorem d_M_inSequence_9 : decode prog_13_method_30_code 9 = .ok (.if_icmp .gt 46, 3) := by decide +kernel
theorem d_M_inSequence_12 : decode prog_13_method_30_code 12 = .ok (.aload_n 0, 1) := by decide +kernel
theorem d_M_inSequence_13 : decode prog_13_method_30_code 13 = .ok (.bipush 10, 2) := by decide +kernel
theorem d_M_inSequence_15 : decode prog_13_method_30_code 15 = .ok (.aload_n 0, 1) := by decide +kernel
theorem d_M_inSequence_16 : decode prog_13_method_30_code 16 = .ok (.getfield 168, 3) := by decide +kernel
theorem d_M_inSequence_19 : decode prog_13_method_30_code 19 = .ok (.imul, 1) := by decide +kernel
theorem d_M_inSequence_20 : decode prog_13_method_30_code 20 = .ok (.iload_n 1, 1) := by decide +kernel
theorem d_M_inSequence_21 : decode prog_13_method_30_code 21 = .ok (.iadd, 1) := by decide +kernel
theorem d_M_inSequence_22 : decode prog_13_method_30_code 22 = .ok (.bipush 48, 2) := by decide +kernel
theorem d_M_inSequence_24 : decode prog_13_method_30_code 24 = .ok (.isub, 1) := by decide +kernel
theorem d_M_inSequence_25 : decode prog_13_method_30_code 25 = .ok (.putfield 168, 3) := by decide +kernel
theorem d_M_inSequence_28 : decode prog_13_method_30_code 28 = .ok (.aload_n 0, 1) := by decide +kernel
theorem d_M_inSequence_29 : decode prog_13_method_30_code 29 = .ok (.aload_n 0, 1) := by decide +kernel
theorem d_M_inSequence_30 : decode prog_13_method_30_code 30 = .ok (.getfield 168, 3) := by decide +kernel
theorem d_M_inSequence_33 : decode prog_13_method_30_code 33 = .ok (.sipush 9999, 3) := by decide +kernel
theorem d_M_inSequence_36 : decode prog_13_method_30_code 36 = .ok (.if_icmp .le 9, 3) := by decide +kernel
theorem d_M_inSequence_39 : decode prog_13_method_30_code 39 = .ok (.sipush 9999, 3) := by decide +kernel
theorem d_M_inSequence_42 : decode prog_13_method_30_code 42 = .ok (.goto 7, 3) := by decide +kernel
theorem d_M_inSequence_45 : decode prog_13_method_30_code 45 = .ok (.aload_n 0, 1) := by decide +kernel
theorem d_M_inSequence_46 : decode prog_13_method_30_code 46 = .ok (.getfield 168, 3) := by decide +kernel
theorem d_M_inSequence_49 : decode prog_13_method_30_code 49 = .ok (.putfield 168, 3) := by decide +kernel
theorem d_M_inSequence_52 : decode prog_13_method_30_code 52 = .ok (.goto 39, 3) := by decide +kernel
theorem d_M_inSequence_55 : decode prog_13_method_30_code 55 = .ok (.iload_n 1, 1) := by decide +kernel
theorem d_M_inSequence_56 : decode prog_13_method_30_code 56 = .ok (.bipush 64, 2) := by decide +kernel
theorem d_M_inSequence_58 : decode prog_13_method_30_code 58 = .ok (.if_icmp .lt 22, 3) := by decide +kernel
theorem d_M_inSequence_61 : decode prog_13_method_30_code 61 = .ok (.iload_n 1, 1) := by decide +kernel
theorem d_M_inSequence_62 : decode prog_13_method_30_code 62 = .ok (.bipush 126, 2) := by decide +kernel
theorem d_M_inSequence_64 : decode prog_13_method_30_code 64 = .ok (.if_icmp .gt 16, 3) := by decide +kernel
theorem d_M_inSequence_67 : decode prog_13_method_30_code 67 = .ok (.aload_n 0, 1) := by decide +kernel
theorem d_M_inSequence_68 : decode prog_13_method_30_code 68 = .ok (.iconst 0, 1) := by decide +kernel
theorem d_M_inSequence_69 : decode prog_13_method_30_code 69 = .ok (.putfield 181, 3) := by decide +kernel
theorem d_M_inSequence_72 : decode prog_13_method_30_code 72 = .ok (.aload_n 0, 1) := by decide +kernel
theorem d_M_inSequence_73 : decode prog_13_method_30_code 73 = .ok (.iload_n 1, 1) := by decide +kernel
theorem d_M_inSequence_74 : decode prog_13_method_30_code 74 = .ok (.invokevirtual 203, 3) := by decide +kernel
theorem d_M_inSequence_77 : decode prog_13_method_30_code 77 = .ok (.goto 14, 3) := by decide +kernel
theorem d_M_inSequence_80 : decode prog_13_method_30_code 80 = .ok (.aload_n 0, 1) := by decide +kernel
theorem d_M_inSequence_81 : decode prog_13_method_30_code 81 = .ok (.iconst 0, 1) := by decide +kernel
theorem d_M_inSequence_82 : decode prog_13_method_30_code 82 = .ok (.putfield 181, 3) := by decide +kernel
theorem d_M_inSequence_85 : decode prog_13_method_30_code 85 = .ok (.aload_n 0, 1) := by decide +kernel
theorem d_M_inSequence_86 : decode prog_13_method_30_code 86 = .ok (.iload_n 1, 1) := by decide +kernel
theorem d_M_inSequence_87 : decode prog_13_method_30_code 87 = .ok (.iload_n 2, 1) := by decide +kernel
theorem d_M_inSequence_88 : decode prog_13_method_30_code 88 = .ok (.invokevirtual 200, 3) := by decide +kernel
theorem d_M_inSequence_91 : decode prog_13_method_30_code 91 = .ok (.return_, 1) := by decide +kernel
theorem d_M_take_0 : decode prog_13_method_31_code 0 = .ok (.aload_n 0, 1) := by decide +kernel
theorem d_M_take_1 : decode prog_13_method_31_code 1 = .ok (.getfield 38, 3) := by decide +kernel
theorem d_M_take_4 : decode prog_13_method_31_code 4 = .ok (.istore_n 2, 1) := by decide +kernel
theorem d_M_take_5 : decode prog_13_method_31_code 5 = .ok (.aload_n 0, 1) := by decide +kernel
theorem d_M_take_6 : decode prog_13_method_31_code 6 = .ok (.iload_n 1, 1) := by decide +kernel
theorem d_M_take_7 : decode prog_13_method_31_code 7 = .ok (.putfield 38, 3) := by decide +kernel
theorem d_M_take_10 : decode prog_13_method_31_code 10 = .ok (.aload_n 0, 1) := by decide +kernel
theorem d_M_take_11 : decode prog_13_method_31_code 11 = .ok (.getfield 184, 3) := by decide +kernel
theorem d_M_take_14 : decode prog_13_method_31_code 14 = .ok (.ifCond .le 12, 3) := by decide +kernel
theorem d_M_take_17 : decode prog_13_method_31_code 17 = .ok (.aload_n 0, 1) := by decide +kernel
theorem d_M_take_18 : decode prog_13_method_31_code 18 = .ok (.iload_n 1, 1) := by decide +kernel
theorem d_M_take_19 : decode prog_13_method_31_code 19 = .ok (.iload_n 2, 1) := by decide +kernel
theorem d_M_take_20 : decode prog_13_method_31_code 20 = .ok (.invokevirtual 206, 3) := by decide +kernel
theorem d_M_take_23 : decode prog_13_method_31_code 23 = .ok (.goto 76, 3) := by decide +kernel
theorem d_M_take_26 : decode prog_13_method_31_code 26 = .ok (.aload_n 0, 1) := by decide +kernel
theorem d_M_take_27 : decode prog_13_method_31_code 27 = .ok (.getfield 181, 3) := by decide +kernel
theorem d_M_take_30 : decode prog_13_method_31_code 30 = .ok (.ifCond .ne 12, 3) := by decide +kernel
theorem d_M_take_33 : decode prog_13_method_31_code 33 = .ok (.aload_n 0, 1) := by decide +kernel
theorem d_M_take_34 : decode prog_13_method_31_code 34 = .ok (.iload_n 1, 1) := by decide +kernel
theorem d_M_take_35 : decode prog_13_method_31_code 35 = .ok (.iload_n 2, 1) := by decide +kernel
theorem d_M_take_36 : decode prog_13_method_31_code 36 = .ok (.invokevirtual 200, 3) := by decide +kernel
theorem d_M_take_39 : decode prog_13_method_31_code 39 = .ok (.goto 60, 3) := by decide +kernel
theorem d_M_take_42 : decode prog_13_method_31_code 42 = .ok (.aload_n 0, 1) := by decide +kernel
theorem d_M_take_43 : decode prog_13_method_31_code 43 = .ok (.getfield 181, 3) := by decide +kernel
theorem d_M_take_46 : decode prog_13_method_31_code 46 = .ok (.iconst 2, 1) := by decide +kernel
theorem d_M_take_47 : decode prog_13_method_31_code 47 = .ok (.if_icmp .ne 12, 3) := by decide +kernel
theorem d_M_take_50 : decode prog_13_method_31_code 50 = .ok (.aload_n 0, 1) := by decide +kernel
theorem d_M_take_51 : decode prog_13_method_31_code 51 = .ok (.iload_n 1, 1) := by decide +kernel
theorem d_M_take_52 : decode prog_13_method_31_code 52 = .ok (.iload_n 2, 1) := by decide +kernel
theorem d_M_take_53 : decode prog_13_method_31_code 53 = .ok (.invokevirtual 209, 3) := by decide +kernel
theorem d_M_take_56 : decode prog_13_method_31_code 56 = .ok (.goto 43, 3) := by decide +kernel
theorem d_M_take_59 : decode prog_13_method_31_code 59 = .ok (.iload_n 1, 1) := by decide +kernel
theorem d_M_take_60 : decode prog_13_method_31_code 60 = .ok (.bipush 91, 2) := by decide +kernel
theorem d_M_take_62 : decode prog_13_method_31_code 62 = .ok (.if_icmp .ne 16, 3) := by decide +kernel
theorem d_M_take_65 : decode prog_13_method_31_code 65 = .ok (.aload_n 0, 1) := by decide +kernel
theorem d_M_take_66 : decode prog_13_method_31_code 66 = .ok (.iconst 2, 1) := by decide +kernel
theorem d_M_take_67 : decode prog_13_method_31_code 67 = .ok (.putfield 181, 3) := by decide +kernel
theorem d_M_take_70 : decode prog_13_method_31_code 70 = .ok (.aload_n 0, 1) := by decide +kernel
theorem d_M_take_71 : decode prog_13_method_31_code 71 = .ok (.iconst 0, 1) := by decide +kernel
theorem d_M_take_72 : decode prog_13_method_31_code 72 = .ok (.putfield 168, 3) := by decide +kernel
theorem d_M_take_75 : decode prog_13_method_31_code 75 = .ok (.goto 24, 3) := by decide +kernel
theorem d_M_take_78 : decode prog_13_method_31_code 78 = .ok (.aload_n 0, 1) := by decide +kernel
theorem d_M_take_79 : decode prog_13_method_31_code 79 = .ok (.invokevirtual 212, 3) := by decide +kernel
theorem d_M_take_82 : decode prog_13_method_31_code 82 = .ok (.iload_n 1, 1) := by decide +kernel
theorem d_M_take_83 : decode prog_13_method_31_code 83 = .ok (.bipush 27, 2) := by decide +kernel
theorem d_M_take_85 : decode prog_13_method_31_code 85 = .ok (.if_icmp .eq 14, 3) := by decide +kernel
theorem d_M_take_88 : decode prog_13_method_31_code 88 = .ok (.aload_n 0, 1) := by decide +kernel
theorem d_M_take_89 : decode prog_13_method_31_code 89 = .ok (.iconst 0, 1) := by decide +kernel
theorem d_M_take_90 : decode prog_13_method_31_code 90 = .ok (.putfield 181, 3) := by decide +kernel
theorem d_M_take_93 : decode prog_13_method_31_code 93 = .ok (.aload_n 0, 1) := by decide +kernel
theorem d_M_take_94 : decode prog_13_method_31_code 94 = .ok (.iload_n 1, 1) := by decide +kernel
theorem d_M_take_95 : decode prog_13_method_31_code 95 = .ok (.iload_n 2, 1) := by decide +kernel
theorem d_M_take_96 : decode prog_13_method_31_code 96 = .ok (.invokevirtual 200, 3) := by decide +kernel
theorem d_M_take_99 : decode prog_13_method_31_code 99 = .ok (.return_, 1) := by decide +kernel
theorem d_M_type_0 : decode prog_13_method_32_code 0 = .ok (.iload_n 3, 1) := by decide +kernel
theorem d_M_type_1 : decode prog_13_method_32_code 1 = .ok (.iconst 1, 1) := by decide +kernel
theorem d_M_type_2 : decode prog_13_method_32_code 2 = .ok (.if_icmp .lt 9, 3) := by decide +kernel
theorem d_M_type_5 : decode prog_13_method_32_code 5 = .ok (.iload_n 3, 1) := by decide +kernel
theorem d_M_type_6 : decode prog_13_method_32_code 6 = .ok (.bipush 8, 2) := by decide +kernel
theorem d_M_type_8 : decode prog_13_method_32_code 8 = .ok (.if_icmp .le 5, 3) := by decide +kernel
theorem d_M_type_11 : decode prog_13_method_32_code 11 = .ok (.iconst (-1), 1) := by decide +kernel
theorem d_M_type_12 : decode prog_13_method_32_code 12 = .ok (.ireturn, 1) := by decide +kernel
theorem d_M_type_13 : decode prog_13_method_32_code 13 = .ok (.iconst 0, 1) := by decide +kernel
theorem d_M_type_14 : decode prog_13_method_32_code 14 = .ok (.istore 4, 2) := by decide +kernel
theorem d_M_type_16 : decode prog_13_method_32_code 16 = .ok (.iload 4, 2) := by decide +kernel
theorem d_M_type_18 : decode prog_13_method_32_code 18 = .ok (.iload_n 3, 1) := by decide +kernel
theorem d_M_type_19 : decode prog_13_method_32_code 19 = .ok (.if_icmp .ge 25, 3) := by decide +kernel
theorem d_M_type_22 : decode prog_13_method_32_code 22 = .ok (.aload_n 0, 1) := by decide +kernel
theorem d_M_type_23 : decode prog_13_method_32_code 23 = .ok (.lload_n 1, 1) := by decide +kernel
theorem d_M_type_24 : decode prog_13_method_32_code 24 = .ok (.bipush 8, 2) := by decide +kernel
theorem d_M_type_26 : decode prog_13_method_32_code 26 = .ok (.iload 4, 2) := by decide +kernel
theorem d_M_type_28 : decode prog_13_method_32_code 28 = .ok (.imul, 1) := by decide +kernel
theorem d_M_type_29 : decode prog_13_method_32_code 29 = .ok (.lshr, 1) := by decide +kernel
theorem d_M_type_30 : decode prog_13_method_32_code 30 = .ok (.ldc2_w 215, 3) := by decide +kernel
theorem d_M_type_33 : decode prog_13_method_32_code 33 = .ok (.land, 1) := by decide +kernel
theorem d_M_type_34 : decode prog_13_method_32_code 34 = .ok (.l2i, 1) := by decide +kernel
theorem d_M_type_35 : decode prog_13_method_32_code 35 = .ok (.invokevirtual 217, 3) := by decide +kernel
theorem d_M_type_38 : decode prog_13_method_32_code 38 = .ok (.iinc 4 1, 3) := by decide +kernel
theorem d_M_type_41 : decode prog_13_method_32_code 41 = .ok (.goto (-25), 3) := by decide +kernel
theorem d_M_type_44 : decode prog_13_method_32_code 44 = .ok (.aload_n 0, 1) := by decide +kernel
theorem d_M_type_45 : decode prog_13_method_32_code 45 = .ok (.getfield 87, 3) := by decide +kernel
theorem d_M_type_48 : decode prog_13_method_32_code 48 = .ok (.ireturn, 1) := by decide +kernel
theorem d_M_tick_0 : decode prog_13_method_33_code 0 = .ok (.aload_n 0, 1) := by decide +kernel
theorem d_M_tick_1 : decode prog_13_method_33_code 1 = .ok (.getfield 184, 3) := by decide +kernel
theorem d_M_tick_4 : decode prog_13_method_33_code 4 = .ok (.ifCond .le 17, 3) := by decide +kernel
theorem d_M_tick_7 : decode prog_13_method_33_code 7 = .ok (.aload_n 0, 1) := by decide +kernel
theorem d_M_tick_8 : decode prog_13_method_33_code 8 = .ok (.iconst 0, 1) := by decide +kernel
theorem d_M_tick_9 : decode prog_13_method_33_code 9 = .ok (.putfield 184, 3) := by decide +kernel
theorem d_M_tick_12 : decode prog_13_method_33_code 12 = .ok (.aload_n 0, 1) := by decide +kernel
theorem d_M_tick_13 : decode prog_13_method_33_code 13 = .ok (.ldc 196, 2) := by decide +kernel
theorem d_M_tick_15 : decode prog_13_method_33_code 15 = .ok (.invokevirtual 144, 3) := by decide +kernel
theorem d_M_tick_18 : decode prog_13_method_33_code 18 = .ok (.goto 36, 3) := by decide +kernel
theorem d_M_tick_21 : decode prog_13_method_33_code 21 = .ok (.aload_n 0, 1) := by decide +kernel
theorem d_M_tick_22 : decode prog_13_method_33_code 22 = .ok (.getfield 181, 3) := by decide +kernel
theorem d_M_tick_25 : decode prog_13_method_33_code 25 = .ok (.iconst 1, 1) := by decide +kernel
theorem d_M_tick_26 : decode prog_13_method_33_code 26 = .ok (.if_icmp .ne 15, 3) := by decide +kernel
theorem d_M_tick_29 : decode prog_13_method_33_code 29 = .ok (.aload_n 0, 1) := by decide +kernel
theorem d_M_tick_30 : decode prog_13_method_33_code 30 = .ok (.iconst 0, 1) := by decide +kernel
theorem d_M_tick_31 : decode prog_13_method_33_code 31 = .ok (.putfield 181, 3) := by decide +kernel
theorem d_M_tick_34 : decode prog_13_method_33_code 34 = .ok (.aload_n 0, 1) := by decide +kernel
theorem d_M_tick_35 : decode prog_13_method_33_code 35 = .ok (.invokevirtual 212, 3) := by decide +kernel
theorem d_M_tick_38 : decode prog_13_method_33_code 38 = .ok (.goto 16, 3) := by decide +kernel
theorem d_M_tick_41 : decode prog_13_method_33_code 41 = .ok (.aload_n 0, 1) := by decide +kernel
theorem d_M_tick_42 : decode prog_13_method_33_code 42 = .ok (.getfield 181, 3) := by decide +kernel
theorem d_M_tick_45 : decode prog_13_method_33_code 45 = .ok (.iconst 2, 1) := by decide +kernel
theorem d_M_tick_46 : decode prog_13_method_33_code 46 = .ok (.if_icmp .ne 8, 3) := by decide +kernel
theorem d_M_tick_49 : decode prog_13_method_33_code 49 = .ok (.aload_n 0, 1) := by decide +kernel
theorem d_M_tick_50 : decode prog_13_method_33_code 50 = .ok (.iconst 0, 1) := by decide +kernel
theorem d_M_tick_51 : decode prog_13_method_33_code 51 = .ok (.putfield 181, 3) := by decide +kernel
theorem d_M_tick_54 : decode prog_13_method_33_code 54 = .ok (.aload_n 0, 1) := by decide +kernel
theorem d_M_tick_55 : decode prog_13_method_33_code 55 = .ok (.getfield 87, 3) := by decide +kernel
theorem d_M_tick_58 : decode prog_13_method_33_code 58 = .ok (.ireturn, 1) := by decide +kernel
theorem d_M_clusterAt_0 : decode prog_13_method_34_code 0 = .ok (.aload_n 0, 1) := by decide +kernel
theorem d_M_clusterAt_1 : decode prog_13_method_34_code 1 = .ok (.getfield 7, 3) := by decide +kernel
theorem d_M_clusterAt_4 : decode prog_13_method_34_code 4 = .ok (.iload_n 1, 1) := by decide +kernel
theorem d_M_clusterAt_5 : decode prog_13_method_34_code 5 = .ok (.iaload, 1) := by decide +kernel
theorem d_M_clusterAt_6 : decode prog_13_method_34_code 6 = .ok (.istore_n 2, 1) := by decide +kernel
theorem d_M_clusterAt_7 : decode prog_13_method_34_code 7 = .ok (.aload_n 0, 1) := by decide +kernel
theorem d_M_clusterAt_8 : decode prog_13_method_34_code 8 = .ok (.iload_n 1, 1) := by decide +kernel
theorem d_M_clusterAt_9 : decode prog_13_method_34_code 9 = .ok (.invokevirtual 107, 3) := by decide +kernel
theorem d_M_clusterAt_12 : decode prog_13_method_34_code 12 = .ok (.istore_n 3, 1) := by decide +kernel
theorem d_M_clusterAt_13 : decode prog_13_method_34_code 13 = .ok (.iload_n 3, 1) := by decide +kernel
theorem d_M_clusterAt_14 : decode prog_13_method_34_code 14 = .ok (.iload_n 1, 1) := by decide +kernel
theorem d_M_clusterAt_15 : decode prog_13_method_34_code 15 = .ok (.isub, 1) := by decide +kernel
theorem d_M_clusterAt_16 : decode prog_13_method_34_code 16 = .ok (.iconst 1, 1) := by decide +kernel
theorem d_M_clusterAt_17 : decode prog_13_method_34_code 17 = .ok (.if_icmp .le 21, 3) := by decide +kernel
theorem d_M_clusterAt_20 : decode prog_13_method_34_code 20 = .ok (.iload_n 2, 1) := by decide +kernel
theorem d_M_clusterAt_21 : decode prog_13_method_34_code 21 = .ok (.ldc 220, 2) := by decide +kernel
theorem d_M_clusterAt_23 : decode prog_13_method_34_code 23 = .ok (.aload_n 0, 1) := by decide +kernel
theorem d_M_clusterAt_24 : decode prog_13_method_34_code 24 = .ok (.getfield 7, 3) := by decide +kernel
theorem d_M_clusterAt_27 : decode prog_13_method_34_code 27 = .ok (.iload_n 1, 1) := by decide +kernel
theorem d_M_clusterAt_28 : decode prog_13_method_34_code 28 = .ok (.iconst 1, 1) := by decide +kernel
theorem d_M_clusterAt_29 : decode prog_13_method_34_code 29 = .ok (.iadd, 1) := by decide +kernel
theorem d_M_clusterAt_30 : decode prog_13_method_34_code 30 = .ok (.iaload, 1) := by decide +kernel
theorem d_M_clusterAt_31 : decode prog_13_method_34_code 31 = .ok (.sipush 767, 3) := by decide +kernel
theorem d_M_clusterAt_34 : decode prog_13_method_34_code 34 = .ok (.isub, 1) := by decide +kernel
theorem d_M_clusterAt_35 : decode prog_13_method_34_code 35 = .ok (.imul, 1) := by decide +kernel
theorem d_M_clusterAt_36 : decode prog_13_method_34_code 36 = .ok (.iadd, 1) := by decide +kernel
theorem d_M_clusterAt_37 : decode prog_13_method_34_code 37 = .ok (.istore_n 2, 1) := by decide +kernel
theorem d_M_clusterAt_38 : decode prog_13_method_34_code 38 = .ok (.iload_n 3, 1) := by decide +kernel
theorem d_M_clusterAt_39 : decode prog_13_method_34_code 39 = .ok (.iload_n 1, 1) := by decide +kernel
theorem d_M_clusterAt_40 : decode prog_13_method_34_code 40 = .ok (.isub, 1) := by decide +kernel
theorem d_M_clusterAt_41 : decode prog_13_method_34_code 41 = .ok (.iconst 2, 1) := by decide +kernel
theorem d_M_clusterAt_42 : decode prog_13_method_34_code 42 = .ok (.if_icmp .le 21, 3) := by decide +kernel
theorem d_M_clusterAt_45 : decode prog_13_method_34_code 45 = .ok (.iload_n 2, 1) := by decide +kernel
theorem d_M_clusterAt_46 : decode prog_13_method_34_code 46 = .ok (.ldc 221, 2) := by decide +kernel
theorem d_M_clusterAt_48 : decode prog_13_method_34_code 48 = .ok (.aload_n 0, 1) := by decide +kernel
theorem d_M_clusterAt_49 : decode prog_13_method_34_code 49 = .ok (.getfield 7, 3) := by decide +kernel
theorem d_M_clusterAt_52 : decode prog_13_method_34_code 52 = .ok (.iload_n 1, 1) := by decide +kernel
theorem d_M_clusterAt_53 : decode prog_13_method_34_code 53 = .ok (.iconst 2, 1) := by decide +kernel
theorem d_M_clusterAt_54 : decode prog_13_method_34_code 54 = .ok (.iadd, 1) := by decide +kernel
theorem d_M_clusterAt_55 : decode prog_13_method_34_code 55 = .ok (.iaload, 1) := by decide +kernel
theorem d_M_clusterAt_56 : decode prog_13_method_34_code 56 = .ok (.sipush 767, 3) := by decide +kernel
theorem d_M_clusterAt_59 : decode prog_13_method_34_code 59 = .ok (.isub, 1) := by decide +kernel
theorem d_M_clusterAt_60 : decode prog_13_method_34_code 60 = .ok (.imul, 1) := by decide +kernel
theorem d_M_clusterAt_61 : decode prog_13_method_34_code 61 = .ok (.iadd, 1) := by decide +kernel
theorem d_M_clusterAt_62 : decode prog_13_method_34_code 62 = .ok (.istore_n 2, 1) := by decide +kernel
theorem d_M_clusterAt_63 : decode prog_13_method_34_code 63 = .ok (.iload_n 2, 1) := by decide +kernel
theorem d_M_clusterAt_64 : decode prog_13_method_34_code 64 = .ok (.ireturn, 1) := by decide +kernel
theorem d_M_fillText_0 : decode prog_13_method_35_code 0 = .ok (.aload_n 0, 1) := by decide +kernel
theorem d_M_fillText_1 : decode prog_13_method_35_code 1 = .ok (.getfield 13, 3) := by decide +kernel
theorem d_M_fillText_4 : decode prog_13_method_35_code 4 = .ok (.aload_n 0, 1) := by decide +kernel
theorem d_M_fillText_5 : decode prog_13_method_35_code 5 = .ok (.getfield 117, 3) := by decide +kernel
theorem d_M_fillText_8 : decode prog_13_method_35_code 8 = .ok (.if_icmp .ge 10, 3) := by decide +kernel
theorem d_M_fillText_11 : decode prog_13_method_35_code 11 = .ok (.aload_n 0, 1) := by decide +kernel
theorem d_M_fillText_12 : decode prog_13_method_35_code 12 = .ok (.getfield 13, 3) := by decide +kernel
theorem d_M_fillText_15 : decode prog_13_method_35_code 15 = .ok (.goto 7, 3) := by decide +kernel
theorem d_M_fillText_18 : decode prog_13_method_35_code 18 = .ok (.aload_n 0, 1) := by decide +kernel
theorem d_M_fillText_19 : decode prog_13_method_35_code 19 = .ok (.getfield 117, 3) := by decide +kernel
theorem d_M_fillText_22 : decode prog_13_method_35_code 22 = .ok (.istore_n 1, 1) := by decide +kernel
theorem d_M_fillText_23 : decode prog_13_method_35_code 23 = .ok (.aload_n 0, 1) := by decide +kernel
theorem d_M_fillText_24 : decode prog_13_method_35_code 24 = .ok (.getfield 13, 3) := by decide +kernel
theorem d_M_fillText_27 : decode prog_13_method_35_code 27 = .ok (.aload_n 0, 1) := by decide +kernel
theorem d_M_fillText_28 : decode prog_13_method_35_code 28 = .ok (.getfield 117, 3) := by decide +kernel
theorem d_M_fillText_31 : decode prog_13_method_35_code 31 = .ok (.if_icmp .ge 10, 3) := by decide +kernel
theorem d_M_fillText_34 : decode prog_13_method_35_code 34 = .ok (.aload_n 0, 1) := by decide +kernel
theorem d_M_fillText_35 : decode prog_13_method_35_code 35 = .ok (.getfield 117, 3) := by decide +kernel
theorem d_M_fillText_38 : decode prog_13_method_35_code 38 = .ok (.goto 7, 3) := by decide +kernel
theorem d_M_fillText_41 : decode prog_13_method_35_code 41 = .ok (.aload_n 0, 1) := by decide +kernel
theorem d_M_fillText_42 : decode prog_13_method_35_code 42 = .ok (.getfield 13, 3) := by decide +kernel
theorem d_M_fillText_45 : decode prog_13_method_35_code 45 = .ok (.istore_n 2, 1) := by decide +kernel
theorem d_M_fillText_46 : decode prog_13_method_35_code 46 = .ok (.iconst 0, 1) := by decide +kernel
theorem d_M_fillText_47 : decode prog_13_method_35_code 47 = .ok (.istore_n 3, 1) := by decide +kernel
theorem d_M_fillText_48 : decode prog_13_method_35_code 48 = .ok (.iload_n 3, 1) := by decide +kernel
theorem d_M_fillText_49 : decode prog_13_method_35_code 49 = .ok (.aload_n 0, 1) := by decide +kernel
theorem d_M_fillText_50 : decode prog_13_method_35_code 50 = .ok (.getfield 87, 3) := by decide +kernel
theorem d_M_fillText_53 : decode prog_13_method_35_code 53 = .ok (.if_icmp .gt 193, 3) := by decide +kernel
theorem d_M_fillText_56 : decode prog_13_method_35_code 56 = .ok (.aload_n 0, 1) := by decide +kernel
theorem d_M_fillText_57 : decode prog_13_method_35_code 57 = .ok (.iload_n 3, 1) := by decide +kernel
theorem d_M_fillText_58 : decode prog_13_method_35_code 58 = .ok (.invokevirtual 94, 3) := by decide +kernel
theorem d_M_fillText_61 : decode prog_13_method_35_code 61 = .ok (.ifCond .eq 17, 3) := by decide +kernel
theorem d_M_fillText_64 : decode prog_13_method_35_code 64 = .ok (.aload_n 0, 1) := by decide +kernel
theorem d_M_fillText_65 : decode prog_13_method_35_code 65 = .ok (.getfield 41, 3) := by decide +kernel
theorem d_M_fillText_68 : decode prog_13_method_35_code 68 = .ok (.iload_n 3, 1) := by decide +kernel
theorem d_M_fillText_69 : decode prog_13_method_35_code 69 = .ok (.iaload, 1) := by decide +kernel
theorem d_M_fillText_70 : decode prog_13_method_35_code 70 = .ok (.aload_n 0, 1) := by decide +kernel
theorem d_M_fillText_71 : decode prog_13_method_35_code 71 = .ok (.getfield 222, 3) := by decide +kernel
theorem d_M_fillText_74 : decode prog_13_method_35_code 74 = .ok (.isub, 1) := by decide +kernel
theorem d_M_fillText_75 : decode prog_13_method_35_code 75 = .ok (.goto 4, 3) := by decide +kernel
theorem d_M_fillText_78 : decode prog_13_method_35_code 78 = .ok (.iconst (-1), 1) := by decide +kernel
theorem d_M_fillText_79 : decode prog_13_method_35_code 79 = .ok (.istore 4, 2) := by decide +kernel
theorem d_M_fillText_81 : decode prog_13_method_35_code 81 = .ok (.iload 4, 2) := by decide +kernel
theorem d_M_fillText_83 : decode prog_13_method_35_code 83 = .ok (.ifCond .lt 157, 3) := by decide +kernel
theorem d_M_fillText_86 : decode prog_13_method_35_code 86 = .ok (.iload 4, 2) := by decide +kernel
theorem d_M_fillText_88 : decode prog_13_method_35_code 88 = .ok (.aload_n 0, 1) := by decide +kernel
theorem d_M_fillText_89 : decode prog_13_method_35_code 89 = .ok (.getfield 81, 3) := by decide +kernel
theorem d_M_fillText_92 : decode prog_13_method_35_code 92 = .ok (.iconst 1, 1) := by decide +kernel
theorem d_M_fillText_93 : decode prog_13_method_35_code 93 = .ok (.isub, 1) := by decide +kernel
theorem d_M_fillText_94 : decode prog_13_method_35_code 94 = .ok (.if_icmp .ge 146, 3) := by decide +kernel
theorem d_M_fillText_97 : decode prog_13_method_35_code 97 = .ok (.aload_n 0, 1) := by decide +kernel
theorem d_M_fillText_98 : decode prog_13_method_35_code 98 = .ok (.getfield 78, 3) := by decide +kernel
theorem d_M_fillText_101 : decode prog_13_method_35_code 101 = .ok (.iload 4, 2) := by decide +kernel
theorem d_M_fillText_103 : decode prog_13_method_35_code 103 = .ok (.imul, 1) := by decide +kernel
theorem d_M_fillText_104 : decode prog_13_method_35_code 104 = .ok (.aload_n 0, 1) := by decide +kernel
theorem d_M_fillText_105 : decode prog_13_method_35_code 105 = .ok (.getfield 44, 3) := by decide +kernel
theorem d_M_fillText_108 : decode prog_13_method_35_code 108 = .ok (.iload_n 3, 1) := by decide +kernel
theorem d_M_fillText_109 : decode prog_13_method_35_code 109 = .ok (.iaload, 1) := by decide +kernel
theorem d_M_fillText_110 : decode prog_13_method_35_code 110 = .ok (.iadd, 1) := by decide +kernel
theorem d_M_fillText_111 : decode prog_13_method_35_code 111 = .ok (.istore 5, 2) := by decide +kernel
theorem d_M_fillText_113 : decode prog_13_method_35_code 113 = .ok (.iload_n 3, 1) := by decide +kernel
theorem d_M_fillText_114 : decode prog_13_method_35_code 114 = .ok (.aload_n 0, 1) := by decide +kernel
theorem d_M_fillText_115 : decode prog_13_method_35_code 115 = .ok (.getfield 87, 3) := by decide +kernel
theorem d_M_fillText_118 : decode prog_13_method_35_code 118 = .ok (.if_icmp .eq 25, 3) := by decide +kernel
theorem d_M_fillText_121 : decode prog_13_method_35_code 121 = .ok (.aload_n 0, 1) := by decide +kernel
theorem d_M_fillText_122 : decode prog_13_method_35_code 122 = .ok (.getfield 7, 3) := by decide +kernel
theorem d_M_fillText_125 : decode prog_13_method_35_code 125 = .ok (.iload_n 3, 1) := by decide +kernel
theorem d_M_fillText_126 : decode prog_13_method_35_code 126 = .ok (.iaload, 1) := by decide +kernel
theorem d_M_fillText_127 : decode prog_13_method_35_code 127 = .ok (.bipush 9, 2) := by decide +kernel
theorem d_M_fillText_129 : decode prog_13_method_35_code 129 = .ok (.if_icmp .eq 14, 3) := by decide +kernel
theorem d_M_fillText_132 : decode prog_13_method_35_code 132 = .ok (.aload_n 0, 1) := by decide +kernel
theorem d_M_fillText_133 : decode prog_13_method_35_code 133 = .ok (.getfield 7, 3) := by decide +kernel
theorem d_M_fillText_136 : decode prog_13_method_35_code 136 = .ok (.iload_n 3, 1) := by decide +kernel
theorem d_M_fillText_137 : decode prog_13_method_35_code 137 = .ok (.iaload, 1) := by decide +kernel
theorem d_M_fillText_138 : decode prog_13_method_35_code 138 = .ok (.bipush 10, 2) := by decide +kernel
theorem d_M_fillText_140 : decode prog_13_method_35_code 140 = .ok (.if_icmp .ne 7, 3) := by decide +kernel
theorem d_M_fillText_143 : decode prog_13_method_35_code 143 = .ok (.iconst 1, 1) := by decide +kernel
theorem d_M_fillText_144 : decode prog_13_method_35_code 144 = .ok (.goto 4, 3) := by decide +kernel
theorem d_M_fillText_147 : decode prog_13_method_35_code 147 = .ok (.iconst 0, 1) := by decide +kernel
theorem d_M_fillText_148 : decode prog_13_method_35_code 148 = .ok (.istore 6, 2) := by decide +kernel
theorem d_M_fillText_150 : decode prog_13_method_35_code 150 = .ok (.aload_n 0, 1) := by decide +kernel
theorem d_M_fillText_151 : decode prog_13_method_35_code 151 = .ok (.getfield 13, 3) := by decide +kernel
theorem d_M_fillText_154 : decode prog_13_method_35_code 154 = .ok (.ifCond .lt 17, 3) := by decide +kernel
theorem d_M_fillText_157 : decode prog_13_method_35_code 157 = .ok (.iload_n 3, 1) := by decide +kernel
theorem d_M_fillText_158 : decode prog_13_method_35_code 158 = .ok (.iload_n 1, 1) := by decide +kernel
theorem d_M_fillText_159 : decode prog_13_method_35_code 159 = .ok (.if_icmp .lt 12, 3) := by decide +kernel
theorem d_M_fillText_162 : decode prog_13_method_35_code 162 = .ok (.iload_n 3, 1) := by decide +kernel
theorem d_M_fillText_163 : decode prog_13_method_35_code 163 = .ok (.iload_n 2, 1) := by decide +kernel
theorem d_M_fillText_164 : decode prog_13_method_35_code 164 = .ok (.if_icmp .ge 7, 3) := by decide +kernel
theorem d_M_fillText_167 : decode prog_13_method_35_code 167 = .ok (.iconst 2, 1) := by decide +kernel
theorem d_M_fillText_168 : decode prog_13_method_35_code 168 = .ok (.goto 4, 3) := by decide +kernel
theorem d_M_fillText_171 : decode prog_13_method_35_code 171 = .ok (.iconst 0, 1) := by decide +kernel
theorem d_M_fillText_172 : decode prog_13_method_35_code 172 = .ok (.istore 7, 2) := by decide +kernel
theorem d_M_fillText_174 : decode prog_13_method_35_code 174 = .ok (.iconst 0, 1) := by decide +kernel
theorem d_M_fillText_175 : decode prog_13_method_35_code 175 = .ok (.istore 8, 2) := by decide +kernel
theorem d_M_fillText_177 : decode prog_13_method_35_code 177 = .ok (.iload 8, 2) := by decide +kernel
theorem d_M_fillText_179 : decode prog_13_method_35_code 179 = .ok (.aload_n 0, 1) := by decide +kernel
theorem d_M_fillText_180 : decode prog_13_method_35_code 180 = .ok (.getfield 47, 3) := by decide +kernel
theorem d_M_fillText_183 : decode prog_13_method_35_code 183 = .ok (.iload_n 3, 1) := by decide +kernel
theorem d_M_fillText_184 : decode prog_13_method_35_code 184 = .ok (.iaload, 1) := by decide +kernel
theorem d_M_fillText_185 : decode prog_13_method_35_code 185 = .ok (.if_icmp .ge 55, 3) := by decide +kernel
theorem d_M_fillText_188 : decode prog_13_method_35_code 188 = .ok (.aload_n 0, 1) := by decide +kernel
theorem d_M_fillText_189 : decode prog_13_method_35_code 189 = .ok (.getfield 50, 3) := by decide +kernel
theorem d_M_fillText_192 : decode prog_13_method_35_code 192 = .ok (.iload 5, 2) := by decide +kernel
theorem d_M_fillText_194 : decode prog_13_method_35_code 194 = .ok (.iload 8, 2) := by decide +kernel
theorem d_M_fillText_196 : decode prog_13_method_35_code 196 = .ok (.iadd, 1) := by decide +kernel
theorem d_M_fillText_197 : decode prog_13_method_35_code 197 = .ok (.iload 6, 2) := by decide +kernel
theorem d_M_fillText_199 : decode prog_13_method_35_code 199 = .ok (.ifCond .eq 8, 3) := by decide +kernel
theorem d_M_fillText_202 : decode prog_13_method_35_code 202 = .ok (.bipush 32, 2) := by decide +kernel
theorem d_M_fillText_204 : decode prog_13_method_35_code 204 = .ok (.goto 17, 3) := by decide +kernel
theorem d_M_fillText_207 : decode prog_13_method_35_code 207 = .ok (.iload 8, 2) := by decide +kernel
theorem d_M_fillText_209 : decode prog_13_method_35_code 209 = .ok (.ifCond .ne 11, 3) := by decide +kernel
theorem d_M_fillText_212 : decode prog_13_method_35_code 212 = .ok (.aload_n 0, 1) := by decide +kernel
theorem d_M_fillText_213 : decode prog_13_method_35_code 213 = .ok (.iload_n 3, 1) := by decide +kernel
theorem d_M_fillText_214 : decode prog_13_method_35_code 214 = .ok (.invokevirtual 225, 3) := by decide +kernel
theorem d_M_fillText_217 : decode prog_13_method_35_code 217 = .ok (.goto 4, 3) := by decide +kernel
theorem d_M_fillText_220 : decode prog_13_method_35_code 220 = .ok (.iconst 0, 1) := by decide +kernel
theorem d_M_fillText_221 : decode prog_13_method_35_code 221 = .ok (.iastore, 1) := by decide +kernel
theorem d_M_fillText_222 : decode prog_13_method_35_code 222 = .ok (.aload_n 0, 1) := by decide +kernel
theorem d_M_fillText_223 : decode prog_13_method_35_code 223 = .ok (.getfield 53, 3) := by decide +kernel
theorem d_M_fillText_226 : decode prog_13_method_35_code 226 = .ok (.iload 5, 2) := by decide +kernel
theorem d_M_fillText_228 : decode prog_13_method_35_code 228 = .ok (.iload 8, 2) := by decide +kernel
theorem d_M_fillText_230 : decode prog_13_method_35_code 230 = .ok (.iadd, 1) := by decide +kernel
theorem d_M_fillText_231 : decode prog_13_method_35_code 231 = .ok (.iload 7, 2) := by decide +kernel
theorem d_M_fillText_233 : decode prog_13_method_35_code 233 = .ok (.iastore, 1) := by decide +kernel
theorem d_M_fillText_234 : decode prog_13_method_35_code 234 = .ok (.iinc 8 1, 3) := by decide +kernel
theorem d_M_fillText_237 : decode prog_13_method_35_code 237 = .ok (.goto (-60), 3) := by decide +kernel
theorem d_M_fillText_240 : decode prog_13_method_35_code 240 = .ok (.iinc 3 1, 3) := by decide +kernel
theorem d_M_fillText_243 : decode prog_13_method_35_code 243 = .ok (.goto (-195), 3) := by decide +kernel
theorem d_M_fillText_246 : decode prog_13_method_35_code 246 = .ok (.return_, 1) := by decide +kernel
theorem d_M_status_0 : decode prog_13_method_36_code 0 = .ok (.iload_n 1, 1) := by decide +kernel
theorem d_M_status_1 : decode prog_13_method_36_code 1 = .ok (.aload_n 0, 1) := by decide +kernel
theorem d_M_status_2 : decode prog_13_method_36_code 2 = .ok (.getfield 78, 3) := by decide +kernel
theorem d_M_status_5 : decode prog_13_method_36_code 5 = .ok (.if_icmp .ge 22, 3) := by decide +kernel
theorem d_M_status_8 : decode prog_13_method_36_code 8 = .ok (.aload_n 0, 1) := by decide +kernel
theorem d_M_status_9 : decode prog_13_method_36_code 9 = .ok (.getfield 50, 3) := by decide +kernel
theorem d_M_status_12 : decode prog_13_method_36_code 12 = .ok (.aload_n 0, 1) := by decide +kernel
theorem d_M_status_13 : decode prog_13_method_36_code 13 = .ok (.getfield 78, 3) := by decide +kernel
theorem d_M_status_16 : decode prog_13_method_36_code 16 = .ok (.aload_n 0, 1) := by decide +kernel
theorem d_M_status_17 : decode prog_13_method_36_code 17 = .ok (.getfield 81, 3) := by decide +kernel
theorem d_M_status_20 : decode prog_13_method_36_code 20 = .ok (.iconst 1, 1) := by decide +kernel
theorem d_M_status_21 : decode prog_13_method_36_code 21 = .ok (.isub, 1) := by decide +kernel
theorem d_M_status_22 : decode prog_13_method_36_code 22 = .ok (.imul, 1) := by decide +kernel
theorem d_M_status_23 : decode prog_13_method_36_code 23 = .ok (.iload_n 1, 1) := by decide +kernel
theorem d_M_status_24 : decode prog_13_method_36_code 24 = .ok (.iadd, 1) := by decide +kernel
theorem d_M_status_25 : decode prog_13_method_36_code 25 = .ok (.iload_n 2, 1) := by decide +kernel
theorem d_M_status_26 : decode prog_13_method_36_code 26 = .ok (.iastore, 1) := by decide +kernel
theorem d_M_status_27 : decode prog_13_method_36_code 27 = .ok (.iload_n 1, 1) := by decide +kernel
theorem d_M_status_28 : decode prog_13_method_36_code 28 = .ok (.iconst 1, 1) := by decide +kernel
theorem d_M_status_29 : decode prog_13_method_36_code 29 = .ok (.iadd, 1) := by decide +kernel
theorem d_M_status_30 : decode prog_13_method_36_code 30 = .ok (.ireturn, 1) := by decide +kernel
theorem d_M_statusNumber_0 : decode prog_13_method_37_code 0 = .ok (.iconst 1, 1) := by decide +kernel
theorem d_M_statusNumber_1 : decode prog_13_method_37_code 1 = .ok (.istore_n 3, 1) := by decide +kernel
theorem d_M_statusNumber_2 : decode prog_13_method_37_code 2 = .ok (.iload_n 3, 1) := by decide +kernel
theorem d_M_statusNumber_3 : decode prog_13_method_37_code 3 = .ok (.bipush 10, 2) := by decide +kernel
theorem d_M_statusNumber_5 : decode prog_13_method_37_code 5 = .ok (.imul, 1) := by decide +kernel
theorem d_M_statusNumber_6 : decode prog_13_method_37_code 6 = .ok (.iload_n 2, 1) := by decide +kernel
theorem d_M_statusNumber_7 : decode prog_13_method_37_code 7 = .ok (.if_icmp .gt 11, 3) := by decide +kernel
theorem d_M_statusNumber_10 : decode prog_13_method_37_code 10 = .ok (.iload_n 3, 1) := by decide +kernel
theorem d_M_statusNumber_11 : decode prog_13_method_37_code 11 = .ok (.bipush 10, 2) := by decide +kernel
theorem d_M_statusNumber_13 : decode prog_13_method_37_code 13 = .ok (.imul, 1) := by decide +kernel
theorem d_M_statusNumber_14 : decode prog_13_method_37_code 14 = .ok (.istore_n 3, 1) := by decide +kernel
theorem d_M_statusNumber_15 : decode prog_13_method_37_code 15 = .ok (.goto (-13), 3) := by decide +kernel
theorem d_M_statusNumber_18 : decode prog_13_method_37_code 18 = .ok (.iload_n 1, 1) := by decide +kernel
theorem d_M_statusNumber_19 : decode prog_13_method_37_code 19 = .ok (.istore 4, 2) := by decide +kernel
theorem d_M_statusNumber_21 : decode prog_13_method_37_code 21 = .ok (.iload_n 3, 1) := by decide +kernel
theorem d_M_statusNumber_22 : decode prog_13_method_37_code 22 = .ok (.ifCond .le 28, 3) := by decide +kernel
theorem d_M_statusNumber_25 : decode prog_13_method_37_code 25 = .ok (.aload_n 0, 1) := by decide +kernel
theorem d_M_statusNumber_26 : decode prog_13_method_37_code 26 = .ok (.iload 4, 2) := by decide +kernel
theorem d_M_statusNumber_28 : decode prog_13_method_37_code 28 = .ok (.bipush 48, 2) := by decide +kernel
theorem d_M_statusNumber_30 : decode prog_13_method_37_code 30 = .ok (.iload_n 2, 1) := by decide +kernel
theorem d_M_statusNumber_31 : decode prog_13_method_37_code 31 = .ok (.iload_n 3, 1) := by decide +kernel
theorem d_M_statusNumber_32 : decode prog_13_method_37_code 32 = .ok (.idiv, 1) := by decide +kernel
theorem d_M_statusNumber_33 : decode prog_13_method_37_code 33 = .ok (.bipush 10, 2) := by decide +kernel
theorem d_M_statusNumber_35 : decode prog_13_method_37_code 35 = .ok (.irem, 1) := by decide +kernel
theorem d_M_statusNumber_36 : decode prog_13_method_37_code 36 = .ok (.iadd, 1) := by decide +kernel
theorem d_M_statusNumber_37 : decode prog_13_method_37_code 37 = .ok (.invokevirtual 228, 3) := by decide +kernel
theorem d_M_statusNumber_40 : decode prog_13_method_37_code 40 = .ok (.istore 4, 2) := by decide +kernel
theorem d_M_statusNumber_42 : decode prog_13_method_37_code 42 = .ok (.iload_n 3, 1) := by decide +kernel
theorem d_M_statusNumber_43 : decode prog_13_method_37_code 43 = .ok (.bipush 10, 2) := by decide +kernel
theorem d_M_statusNumber_45 : decode prog_13_method_37_code 45 = .ok (.idiv, 1) := by decide +kernel
theorem d_M_statusNumber_46 : decode prog_13_method_37_code 46 = .ok (.istore_n 3, 1) := by decide +kernel
theorem d_M_statusNumber_47 : decode prog_13_method_37_code 47 = .ok (.goto (-26), 3) := by decide +kernel
theorem d_M_statusNumber_50 : decode prog_13_method_37_code 50 = .ok (.iload 4, 2) := by decide +kernel
theorem d_M_statusNumber_52 : decode prog_13_method_37_code 52 = .ok (.ireturn, 1) := by decide +kernel
theorem d_M_fillStatus_0 : decode prog_13_method_38_code 0 = .ok (.iconst 1, 1) := by decide +kernel
theorem d_M_fillStatus_1 : decode prog_13_method_38_code 1 = .ok (.istore_n 1, 1) := by decide +kernel
theorem d_M_fillStatus_2 : decode prog_13_method_38_code 2 = .ok (.iconst 0, 1) := by decide +kernel
theorem d_M_fillStatus_3 : decode prog_13_method_38_code 3 = .ok (.istore_n 2, 1) := by decide +kernel
theorem d_M_fillStatus_4 : decode prog_13_method_38_code 4 = .ok (.iload_n 2, 1) := by decide +kernel
theorem d_M_fillStatus_5 : decode prog_13_method_38_code 5 = .ok (.aload_n 0, 1) := by decide +kernel
theorem d_M_fillStatus_6 : decode prog_13_method_38_code 6 = .ok (.getfield 117, 3) := by decide +kernel
theorem d_M_fillStatus_9 : decode prog_13_method_38_code 9 = .ok (.if_icmp .ge 28, 3) := by decide +kernel
theorem d_M_fillStatus_12 : decode prog_13_method_38_code 12 = .ok (.aload_n 0, 1) := by decide +kernel
theorem d_M_fillStatus_13 : decode prog_13_method_38_code 13 = .ok (.getfield 7, 3) := by decide +kernel
theorem d_M_fillStatus_16 : decode prog_13_method_38_code 16 = .ok (.iload_n 2, 1) := by decide +kernel
theorem d_M_fillStatus_17 : decode prog_13_method_38_code 17 = .ok (.iaload, 1) := by decide +kernel
theorem d_M_fillStatus_18 : decode prog_13_method_38_code 18 = .ok (.bipush 10, 2) := by decide +kernel
theorem d_M_fillStatus_20 : decode prog_13_method_38_code 20 = .ok (.if_icmp .ne 9, 3) := by decide +kernel
theorem d_M_fillStatus_23 : decode prog_13_method_38_code 23 = .ok (.iload_n 1, 1) := by decide +kernel
theorem d_M_fillStatus_24 : decode prog_13_method_38_code 24 = .ok (.iconst 1, 1) := by decide +kernel
theorem d_M_fillStatus_25 : decode prog_13_method_38_code 25 = .ok (.iadd, 1) := by decide +kernel
theorem d_M_fillStatus_26 : decode prog_13_method_38_code 26 = .ok (.goto 4, 3) := by decide +kernel
theorem d_M_fillStatus_29 : decode prog_13_method_38_code 29 = .ok (.iload_n 1, 1) := by decide +kernel
theorem d_M_fillStatus_30 : decode prog_13_method_38_code 30 = .ok (.istore_n 1, 1) := by decide +kernel
theorem d_M_fillStatus_31 : decode prog_13_method_38_code 31 = .ok (.iinc 2 1, 3) := by decide +kernel
theorem d_M_fillStatus_34 : decode prog_13_method_38_code 34 = .ok (.goto (-30), 3) := by decide +kernel
theorem d_M_fillStatus_37 : decode prog_13_method_38_code 37 = .ok (.aload_n 0, 1) := by decide +kernel
theorem d_M_fillStatus_38 : decode prog_13_method_38_code 38 = .ok (.iconst 0, 1) := by decide +kernel
theorem d_M_fillStatus_39 : decode prog_13_method_38_code 39 = .ok (.iload_n 1, 1) := by decide +kernel
theorem d_M_fillStatus_40 : decode prog_13_method_38_code 40 = .ok (.invokevirtual 231, 3) := by decide +kernel
theorem d_M_fillStatus_43 : decode prog_13_method_38_code 43 = .ok (.istore_n 2, 1) := by decide +kernel
theorem d_M_fillStatus_44 : decode prog_13_method_38_code 44 = .ok (.aload_n 0, 1) := by decide +kernel
theorem d_M_fillStatus_45 : decode prog_13_method_38_code 45 = .ok (.iload_n 2, 1) := by decide +kernel
theorem d_M_fillStatus_46 : decode prog_13_method_38_code 46 = .ok (.bipush 58, 2) := by decide +kernel
theorem d_M_fillStatus_48 : decode prog_13_method_38_code 48 = .ok (.invokevirtual 228, 3) := by decide +kernel
theorem d_M_fillStatus_51 : decode prog_13_method_38_code 51 = .ok (.istore_n 2, 1) := by decide +kernel
theorem d_M_fillStatus_52 : decode prog_13_method_38_code 52 = .ok (.aload_n 0, 1) := by decide +kernel
theorem d_M_fillStatus_53 : decode prog_13_method_38_code 53 = .ok (.iload_n 2, 1) := by decide +kernel
theorem d_M_fillStatus_54 : decode prog_13_method_38_code 54 = .ok (.aload_n 0, 1) := by decide +kernel
theorem d_M_fillStatus_55 : decode prog_13_method_38_code 55 = .ok (.getfield 44, 3) := by decide +kernel
theorem d_M_fillStatus_58 : decode prog_13_method_38_code 58 = .ok (.aload_n 0, 1) := by decide +kernel
theorem d_M_fillStatus_59 : decode prog_13_method_38_code 59 = .ok (.getfield 117, 3) := by decide +kernel
theorem d_M_fillStatus_62 : decode prog_13_method_38_code 62 = .ok (.iaload, 1) := by decide +kernel
theorem d_M_fillStatus_63 : decode prog_13_method_38_code 63 = .ok (.iconst 1, 1) := by decide +kernel
theorem d_M_fillStatus_64 : decode prog_13_method_38_code 64 = .ok (.iadd, 1) := by decide +kernel
theorem d_M_fillStatus_65 : decode prog_13_method_38_code 65 = .ok (.invokevirtual 231, 3) := by decide +kernel
theorem d_M_fillStatus_68 : decode prog_13_method_38_code 68 = .ok (.istore_n 2, 1) := by decide +kernel
theorem d_M_fillStatus_69 : decode prog_13_method_38_code 69 = .ok (.aload_n 0, 1) := by decide +kernel
theorem d_M_fillStatus_70 : decode prog_13_method_38_code 70 = .ok (.getfield 111, 3) := by decide +kernel
theorem d_M_fillStatus_73 : decode prog_13_method_38_code 73 = .ok (.ifCond .le 11, 3) := by decide +kernel
theorem d_M_fillStatus_76 : decode prog_13_method_38_code 76 = .ok (.aload_n 0, 1) := by decide +kernel
theorem d_M_fillStatus_77 : decode prog_13_method_38_code 77 = .ok (.iload_n 2, 1) := by decide +kernel
theorem d_M_fillStatus_78 : decode prog_13_method_38_code 78 = .ok (.bipush 42, 2) := by decide +kernel
theorem d_M_fillStatus_80 : decode prog_13_method_38_code 80 = .ok (.invokevirtual 228, 3) := by decide +kernel
theorem d_M_fillStatus_83 : decode prog_13_method_38_code 83 = .ok (.pop, 1) := by decide +kernel
theorem d_M_fillStatus_84 : decode prog_13_method_38_code 84 = .ok (.iconst 0, 1) := by decide +kernel
theorem d_M_fillStatus_85 : decode prog_13_method_38_code 85 = .ok (.istore_n 3, 1) := by decide +kernel
theorem d_M_fillStatus_86 : decode prog_13_method_38_code 86 = .ok (.iload_n 3, 1) := by decide +kernel
theorem d_M_fillStatus_87 : decode prog_13_method_38_code 87 = .ok (.aload_n 0, 1) := by decide +kernel
theorem d_M_fillStatus_88 : decode prog_13_method_38_code 88 = .ok (.getfield 78, 3) := by decide +kernel
theorem d_M_fillStatus_91 : decode prog_13_method_38_code 91 = .ok (.if_icmp .ge 28, 3) := by decide +kernel
theorem d_M_fillStatus_94 : decode prog_13_method_38_code 94 = .ok (.aload_n 0, 1) := by decide +kernel
theorem d_M_fillStatus_95 : decode prog_13_method_38_code 95 = .ok (.getfield 53, 3) := by decide +kernel
theorem d_M_fillStatus_98 : decode prog_13_method_38_code 98 = .ok (.aload_n 0, 1) := by decide +kernel
theorem d_M_fillStatus_99 : decode prog_13_method_38_code 99 = .ok (.getfield 78, 3) := by decide +kernel
theorem d_M_fillStatus_102 : decode prog_13_method_38_code 102 = .ok (.aload_n 0, 1) := by decide +kernel
theorem d_M_fillStatus_103 : decode prog_13_method_38_code 103 = .ok (.getfield 81, 3) := by decide +kernel
theorem d_M_fillStatus_106 : decode prog_13_method_38_code 106 = .ok (.iconst 1, 1) := by decide +kernel
theorem d_M_fillStatus_107 : decode prog_13_method_38_code 107 = .ok (.isub, 1) := by decide +kernel
theorem d_M_fillStatus_108 : decode prog_13_method_38_code 108 = .ok (.imul, 1) := by decide +kernel
theorem d_M_fillStatus_109 : decode prog_13_method_38_code 109 = .ok (.iload_n 3, 1) := by decide +kernel
theorem d_M_fillStatus_110 : decode prog_13_method_38_code 110 = .ok (.iadd, 1) := by decide +kernel
theorem d_M_fillStatus_111 : decode prog_13_method_38_code 111 = .ok (.iconst 1, 1) := by decide +kernel
theorem d_M_fillStatus_112 : decode prog_13_method_38_code 112 = .ok (.iastore, 1) := by decide +kernel
theorem d_M_fillStatus_113 : decode prog_13_method_38_code 113 = .ok (.iinc 3 1, 3) := by decide +kernel
theorem d_M_fillStatus_116 : decode prog_13_method_38_code 116 = .ok (.goto (-30), 3) := by decide +kernel
theorem d_M_fillStatus_119 : decode prog_13_method_38_code 119 = .ok (.return_, 1) := by decide +kernel
theorem d_M_compose_0 : decode prog_13_method_39_code 0 = .ok (.iconst 0, 1) := by decide +kernel
theorem d_M_compose_1 : decode prog_13_method_39_code 1 = .ok (.istore_n 1, 1) := by decide +kernel
theorem d_M_compose_2 : decode prog_13_method_39_code 2 = .ok (.iload_n 1, 1) := by decide +kernel
theorem d_M_compose_3 : decode prog_13_method_39_code 3 = .ok (.sipush 192, 3) := by decide +kernel
theorem d_M_compose_6 : decode prog_13_method_39_code 6 = .ok (.if_icmp .ge 24, 3) := by decide +kernel
theorem d_M_compose_9 : decode prog_13_method_39_code 9 = .ok (.aload_n 0, 1) := by decide +kernel
theorem d_M_compose_10 : decode prog_13_method_39_code 10 = .ok (.getfield 50, 3) := by decide +kernel
theorem d_M_compose_13 : decode prog_13_method_39_code 13 = .ok (.iload_n 1, 1) := by decide +kernel
theorem d_M_compose_14 : decode prog_13_method_39_code 14 = .ok (.bipush 32, 2) := by decide +kernel
theorem d_M_compose_16 : decode prog_13_method_39_code 16 = .ok (.iastore, 1) := by decide +kernel
theorem d_M_compose_17 : decode prog_13_method_39_code 17 = .ok (.aload_n 0, 1) := by decide +kernel
theorem d_M_compose_18 : decode prog_13_method_39_code 18 = .ok (.getfield 53, 3) := by decide +kernel
theorem d_M_compose_21 : decode prog_13_method_39_code 21 = .ok (.iload_n 1, 1) := by decide +kernel
theorem d_M_compose_22 : decode prog_13_method_39_code 22 = .ok (.iconst 0, 1) := by decide +kernel
theorem d_M_compose_23 : decode prog_13_method_39_code 23 = .ok (.iastore, 1) := by decide +kernel
theorem d_M_compose_24 : decode prog_13_method_39_code 24 = .ok (.iinc 1 1, 3) := by decide +kernel
theorem d_M_compose_27 : decode prog_13_method_39_code 27 = .ok (.goto (-25), 3) := by decide +kernel
theorem d_M_compose_30 : decode prog_13_method_39_code 30 = .ok (.aload_n 0, 1) := by decide +kernel
theorem d_M_compose_31 : decode prog_13_method_39_code 31 = .ok (.iconst 0, 1) := by decide +kernel
theorem d_M_compose_32 : decode prog_13_method_39_code 32 = .ok (.putfield 234, 3) := by decide +kernel
theorem d_M_compose_35 : decode prog_13_method_39_code 35 = .ok (.aload_n 0, 1) := by decide +kernel
theorem d_M_compose_36 : decode prog_13_method_39_code 36 = .ok (.iconst 0, 1) := by decide +kernel
theorem d_M_compose_37 : decode prog_13_method_39_code 37 = .ok (.putfield 237, 3) := by decide +kernel
theorem d_M_compose_40 : decode prog_13_method_39_code 40 = .ok (.aload_n 0, 1) := by decide +kernel
theorem d_M_compose_41 : decode prog_13_method_39_code 41 = .ok (.invokevirtual 240, 3) := by decide +kernel
theorem d_M_compose_44 : decode prog_13_method_39_code 44 = .ok (.ifCond .eq 4, 3) := by decide +kernel
theorem d_M_compose_47 : decode prog_13_method_39_code 47 = .ok (.return_, 1) := by decide +kernel
theorem d_M_compose_48 : decode prog_13_method_39_code 48 = .ok (.aload_n 0, 1) := by decide +kernel
theorem d_M_compose_49 : decode prog_13_method_39_code 49 = .ok (.invokevirtual 165, 3) := by decide +kernel
theorem d_M_compose_52 : decode prog_13_method_39_code 52 = .ok (.aload_n 0, 1) := by decide +kernel
theorem d_M_compose_53 : decode prog_13_method_39_code 53 = .ok (.getfield 41, 3) := by decide +kernel
theorem d_M_compose_56 : decode prog_13_method_39_code 56 = .ok (.aload_n 0, 1) := by decide +kernel
theorem d_M_compose_57 : decode prog_13_method_39_code 57 = .ok (.getfield 117, 3) := by decide +kernel
theorem d_M_compose_60 : decode prog_13_method_39_code 60 = .ok (.iaload, 1) := by decide +kernel
theorem d_M_compose_61 : decode prog_13_method_39_code 61 = .ok (.istore_n 1, 1) := by decide +kernel
theorem d_M_compose_62 : decode prog_13_method_39_code 62 = .ok (.iload_n 1, 1) := by decide +kernel
theorem d_M_compose_63 : decode prog_13_method_39_code 63 = .ok (.aload_n 0, 1) := by decide +kernel
theorem d_M_compose_64 : decode prog_13_method_39_code 64 = .ok (.getfield 222, 3) := by decide +kernel
theorem d_M_compose_67 : decode prog_13_method_39_code 67 = .ok (.if_icmp .ge 8, 3) := by decide +kernel
theorem d_M_compose_70 : decode prog_13_method_39_code 70 = .ok (.aload_n 0, 1) := by decide +kernel
theorem d_M_compose_71 : decode prog_13_method_39_code 71 = .ok (.iload_n 1, 1) := by decide +kernel
theorem d_M_compose_72 : decode prog_13_method_39_code 72 = .ok (.putfield 222, 3) := by decide +kernel
theorem d_M_compose_75 : decode prog_13_method_39_code 75 = .ok (.iload_n 1, 1) := by decide +kernel
theorem d_M_compose_76 : decode prog_13_method_39_code 76 = .ok (.aload_n 0, 1) := by decide +kernel
theorem d_M_compose_77 : decode prog_13_method_39_code 77 = .ok (.getfield 222, 3) := by decide +kernel
theorem d_M_compose_80 : decode prog_13_method_39_code 80 = .ok (.aload_n 0, 1) := by decide +kernel
theorem d_M_compose_81 : decode prog_13_method_39_code 81 = .ok (.getfield 81, 3) := by decide +kernel
theorem d_M_compose_84 : decode prog_13_method_39_code 84 = .ok (.iadd, 1) := by decide +kernel
theorem d_M_compose_85 : decode prog_13_method_39_code 85 = .ok (.iconst 1, 1) := by decide +kernel
theorem d_M_compose_86 : decode prog_13_method_39_code 86 = .ok (.isub, 1) := by decide +kernel
theorem d_M_compose_87 : decode prog_13_method_39_code 87 = .ok (.if_icmp .lt 15, 3) := by decide +kernel
theorem d_M_compose_90 : decode prog_13_method_39_code 90 = .ok (.aload_n 0, 1) := by decide +kernel
theorem d_M_compose_91 : decode prog_13_method_39_code 91 = .ok (.iload_n 1, 1) := by decide +kernel
theorem d_M_compose_92 : decode prog_13_method_39_code 92 = .ok (.aload_n 0, 1) := by decide +kernel
theorem d_M_compose_93 : decode prog_13_method_39_code 93 = .ok (.getfield 81, 3) := by decide +kernel
theorem d_M_compose_96 : decode prog_13_method_39_code 96 = .ok (.iconst 2, 1) := by decide +kernel
theorem d_M_compose_97 : decode prog_13_method_39_code 97 = .ok (.isub, 1) := by decide +kernel
theorem d_M_compose_98 : decode prog_13_method_39_code 98 = .ok (.isub, 1) := by decide +kernel
theorem d_M_compose_99 : decode prog_13_method_39_code 99 = .ok (.putfield 222, 3) := by decide +kernel
theorem d_M_compose_102 : decode prog_13_method_39_code 102 = .ok (.aload_n 0, 1) := by decide +kernel
theorem d_M_compose_103 : decode prog_13_method_39_code 103 = .ok (.invokevirtual 244, 3) := by decide +kernel
theorem d_M_compose_106 : decode prog_13_method_39_code 106 = .ok (.aload_n 0, 1) := by decide +kernel
theorem d_M_compose_107 : decode prog_13_method_39_code 107 = .ok (.invokevirtual 247, 3) := by decide +kernel
theorem d_M_compose_110 : decode prog_13_method_39_code 110 = .ok (.aload_n 0, 1) := by decide +kernel
theorem d_M_compose_111 : decode prog_13_method_39_code 111 = .ok (.iload_n 1, 1) := by decide +kernel
theorem d_M_compose_112 : decode prog_13_method_39_code 112 = .ok (.aload_n 0, 1) := by decide +kernel
theorem d_M_compose_113 : decode prog_13_method_39_code 113 = .ok (.getfield 222, 3) := by decide +kernel
theorem d_M_compose_116 : decode prog_13_method_39_code 116 = .ok (.isub, 1) := by decide +kernel
theorem d_M_compose_117 : decode prog_13_method_39_code 117 = .ok (.putfield 234, 3) := by decide +kernel
theorem d_M_compose_120 : decode prog_13_method_39_code 120 = .ok (.aload_n 0, 1) := by decide +kernel
theorem d_M_compose_121 : decode prog_13_method_39_code 121 = .ok (.aload_n 0, 1) := by decide +kernel
theorem d_M_compose_122 : decode prog_13_method_39_code 122 = .ok (.getfield 44, 3) := by decide +kernel
theorem d_M_compose_125 : decode prog_13_method_39_code 125 = .ok (.aload_n 0, 1) := by decide +kernel
theorem d_M_compose_126 : decode prog_13_method_39_code 126 = .ok (.getfield 117, 3) := by decide +kernel
theorem d_M_compose_129 : decode prog_13_method_39_code 129 = .ok (.iaload, 1) := by decide +kernel
theorem d_M_compose_130 : decode prog_13_method_39_code 130 = .ok (.putfield 237, 3) := by decide +kernel
theorem d_M_compose_133 : decode prog_13_method_39_code 133 = .ok (.return_, 1) := by decide +kernel
theorem d_M_put_0 : decode prog_13_method_40_code 0 = .ok (.aload_n 0, 1) := by decide +kernel
theorem d_M_put_1 : decode prog_13_method_40_code 1 = .ok (.getfield 75, 3) := by decide +kernel
theorem d_M_put_4 : decode prog_13_method_40_code 4 = .ok (.aload_n 0, 1) := by decide +kernel
theorem d_M_put_5 : decode prog_13_method_40_code 5 = .ok (.getfield 250, 3) := by decide +kernel
theorem d_M_put_8 : decode prog_13_method_40_code 8 = .ok (.iload_n 1, 1) := by decide +kernel
theorem d_M_put_9 : decode prog_13_method_40_code 9 = .ok (.iastore, 1) := by decide +kernel
theorem d_M_put_10 : decode prog_13_method_40_code 10 = .ok (.aload_n 0, 1) := by decide +kernel
theorem d_M_put_11 : decode prog_13_method_40_code 11 = .ok (.dup, 1) := by decide +kernel
theorem d_M_put_12 : decode prog_13_method_40_code 12 = .ok (.getfield 250, 3) := by decide +kernel
theorem d_M_put_15 : decode prog_13_method_40_code 15 = .ok (.iconst 1, 1) := by decide +kernel
theorem d_M_put_16 : decode prog_13_method_40_code 16 = .ok (.iadd, 1) := by decide +kernel
theorem d_M_put_17 : decode prog_13_method_40_code 17 = .ok (.putfield 250, 3) := by decide +kernel
theorem d_M_put_20 : decode prog_13_method_40_code 20 = .ok (.return_, 1) := by decide +kernel
theorem d_M_putNumber_0 : decode prog_13_method_41_code 0 = .ok (.iload_n 1, 1) := by decide +kernel
theorem d_M_putNumber_1 : decode prog_13_method_41_code 1 = .ok (.bipush 9, 2) := by decide +kernel
theorem d_M_putNumber_3 : decode prog_13_method_41_code 3 = .ok (.if_icmp .le 14, 3) := by decide +kernel
theorem d_M_putNumber_6 : decode prog_13_method_41_code 6 = .ok (.aload_n 0, 1) := by decide +kernel
theorem d_M_putNumber_7 : decode prog_13_method_41_code 7 = .ok (.bipush 48, 2) := by decide +kernel
theorem d_M_putNumber_9 : decode prog_13_method_41_code 9 = .ok (.iload_n 1, 1) := by decide +kernel
theorem d_M_putNumber_10 : decode prog_13_method_41_code 10 = .ok (.bipush 10, 2) := by decide +kernel
theorem d_M_putNumber_12 : decode prog_13_method_41_code 12 = .ok (.idiv, 1) := by decide +kernel
theorem d_M_putNumber_13 : decode prog_13_method_41_code 13 = .ok (.iadd, 1) := by decide +kernel
theorem d_M_putNumber_14 : decode prog_13_method_41_code 14 = .ok (.invokevirtual 253, 3) := by decide +kernel
theorem d_M_putNumber_17 : decode prog_13_method_41_code 17 = .ok (.aload_n 0, 1) := by decide +kernel
theorem d_M_putNumber_18 : decode prog_13_method_41_code 18 = .ok (.bipush 48, 2) := by decide +kernel
theorem d_M_putNumber_20 : decode prog_13_method_41_code 20 = .ok (.iload_n 1, 1) := by decide +kernel
theorem d_M_putNumber_21 : decode prog_13_method_41_code 21 = .ok (.bipush 10, 2) := by decide +kernel
theorem d_M_putNumber_23 : decode prog_13_method_41_code 23 = .ok (.irem, 1) := by decide +kernel
theorem d_M_putNumber_24 : decode prog_13_method_41_code 24 = .ok (.iadd, 1) := by decide +kernel
theorem d_M_putNumber_25 : decode prog_13_method_41_code 25 = .ok (.invokevirtual 253, 3) := by decide +kernel
theorem d_M_putNumber_28 : decode prog_13_method_41_code 28 = .ok (.return_, 1) := by decide +kernel
