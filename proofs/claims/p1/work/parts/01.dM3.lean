theorem d_M_putBegin_0 : decode prog_13_method_42_code 0 = .ok (.aload_n 0, 1) := by decide +kernel
theorem d_M_putBegin_1 : decode prog_13_method_42_code 1 = .ok (.bipush 27, 2) := by decide +kernel
theorem d_M_putBegin_3 : decode prog_13_method_42_code 3 = .ok (.invokevirtual 253, 3) := by decide +kernel
theorem d_M_putBegin_6 : decode prog_13_method_42_code 6 = .ok (.aload_n 0, 1) := by decide +kernel
theorem d_M_putBegin_7 : decode prog_13_method_42_code 7 = .ok (.bipush 91, 2) := by decide +kernel
theorem d_M_putBegin_9 : decode prog_13_method_42_code 9 = .ok (.invokevirtual 253, 3) := by decide +kernel
theorem d_M_putBegin_12 : decode prog_13_method_42_code 12 = .ok (.return_, 1) := by decide +kernel
theorem d_M_blankHalf_0 : decode prog_13_method_43_code 0 = .ok (.aload_n 0, 1) := by decide +kernel
theorem d_M_blankHalf_1 : decode prog_13_method_43_code 1 = .ok (.getfield 56, 3) := by decide +kernel
theorem d_M_blankHalf_4 : decode prog_13_method_43_code 4 = .ok (.iload_n 1, 1) := by decide +kernel
theorem d_M_blankHalf_5 : decode prog_13_method_43_code 5 = .ok (.iaload, 1) := by decide +kernel
theorem d_M_blankHalf_6 : decode prog_13_method_43_code 6 = .ok (.ifCond .ne 25, 3) := by decide +kernel
theorem d_M_blankHalf_9 : decode prog_13_method_43_code 9 = .ok (.aload_n 0, 1) := by decide +kernel
theorem d_M_blankHalf_10 : decode prog_13_method_43_code 10 = .ok (.getfield 56, 3) := by decide +kernel
theorem d_M_blankHalf_13 : decode prog_13_method_43_code 13 = .ok (.iload_n 1, 1) := by decide +kernel
theorem d_M_blankHalf_14 : decode prog_13_method_43_code 14 = .ok (.iconst 1, 1) := by decide +kernel
theorem d_M_blankHalf_15 : decode prog_13_method_43_code 15 = .ok (.isub, 1) := by decide +kernel
theorem d_M_blankHalf_16 : decode prog_13_method_43_code 16 = .ok (.bipush 32, 2) := by decide +kernel
theorem d_M_blankHalf_18 : decode prog_13_method_43_code 18 = .ok (.iastore, 1) := by decide +kernel
theorem d_M_blankHalf_19 : decode prog_13_method_43_code 19 = .ok (.aload_n 0, 1) := by decide +kernel
theorem d_M_blankHalf_20 : decode prog_13_method_43_code 20 = .ok (.getfield 59, 3) := by decide +kernel
theorem d_M_blankHalf_23 : decode prog_13_method_43_code 23 = .ok (.iload_n 1, 1) := by decide +kernel
theorem d_M_blankHalf_24 : decode prog_13_method_43_code 24 = .ok (.iconst 1, 1) := by decide +kernel
theorem d_M_blankHalf_25 : decode prog_13_method_43_code 25 = .ok (.isub, 1) := by decide +kernel
theorem d_M_blankHalf_26 : decode prog_13_method_43_code 26 = .ok (.iconst 0, 1) := by decide +kernel
theorem d_M_blankHalf_27 : decode prog_13_method_43_code 27 = .ok (.iastore, 1) := by decide +kernel
theorem d_M_blankHalf_28 : decode prog_13_method_43_code 28 = .ok (.goto 38, 3) := by decide +kernel
theorem d_M_blankHalf_31 : decode prog_13_method_43_code 31 = .ok (.aload_n 0, 1) := by decide +kernel
theorem d_M_blankHalf_32 : decode prog_13_method_43_code 32 = .ok (.getfield 56, 3) := by decide +kernel
theorem d_M_blankHalf_35 : decode prog_13_method_43_code 35 = .ok (.iload_n 1, 1) := by decide +kernel
theorem d_M_blankHalf_36 : decode prog_13_method_43_code 36 = .ok (.iaload, 1) := by decide +kernel
theorem d_M_blankHalf_37 : decode prog_13_method_43_code 37 = .ok (.ldc_w 256, 3) := by decide +kernel
theorem d_M_blankHalf_40 : decode prog_13_method_43_code 40 = .ok (.iand, 1) := by decide +kernel
theorem d_M_blankHalf_41 : decode prog_13_method_43_code 41 = .ok (.invokestatic 97, 3) := by decide +kernel
theorem d_M_blankHalf_44 : decode prog_13_method_43_code 44 = .ok (.ifCond .eq 22, 3) := by decide +kernel
theorem d_M_blankHalf_47 : decode prog_13_method_43_code 47 = .ok (.aload_n 0, 1) := by decide +kernel
theorem d_M_blankHalf_48 : decode prog_13_method_43_code 48 = .ok (.getfield 56, 3) := by decide +kernel
theorem d_M_blankHalf_51 : decode prog_13_method_43_code 51 = .ok (.iload_n 1, 1) := by decide +kernel
theorem d_M_blankHalf_52 : decode prog_13_method_43_code 52 = .ok (.iconst 1, 1) := by decide +kernel
theorem d_M_blankHalf_53 : decode prog_13_method_43_code 53 = .ok (.iadd, 1) := by decide +kernel
theorem d_M_blankHalf_54 : decode prog_13_method_43_code 54 = .ok (.bipush 32, 2) := by decide +kernel
theorem d_M_blankHalf_56 : decode prog_13_method_43_code 56 = .ok (.iastore, 1) := by decide +kernel
theorem d_M_blankHalf_57 : decode prog_13_method_43_code 57 = .ok (.aload_n 0, 1) := by decide +kernel
theorem d_M_blankHalf_58 : decode prog_13_method_43_code 58 = .ok (.getfield 59, 3) := by decide +kernel
theorem d_M_blankHalf_61 : decode prog_13_method_43_code 61 = .ok (.iload_n 1, 1) := by decide +kernel
theorem d_M_blankHalf_62 : decode prog_13_method_43_code 62 = .ok (.iconst 1, 1) := by decide +kernel
theorem d_M_blankHalf_63 : decode prog_13_method_43_code 63 = .ok (.iadd, 1) := by decide +kernel
theorem d_M_blankHalf_64 : decode prog_13_method_43_code 64 = .ok (.iconst 0, 1) := by decide +kernel
theorem d_M_blankHalf_65 : decode prog_13_method_43_code 65 = .ok (.iastore, 1) := by decide +kernel
theorem d_M_blankHalf_66 : decode prog_13_method_43_code 66 = .ok (.return_, 1) := by decide +kernel
theorem d_M_putCode_0 : decode prog_13_method_44_code 0 = .ok (.iload_n 1, 1) := by decide +kernel
theorem d_M_putCode_1 : decode prog_13_method_44_code 1 = .ok (.sipush 128, 3) := by decide +kernel
theorem d_M_putCode_4 : decode prog_13_method_44_code 4 = .ok (.if_icmp .ge 11, 3) := by decide +kernel
theorem d_M_putCode_7 : decode prog_13_method_44_code 7 = .ok (.aload_n 0, 1) := by decide +kernel
theorem d_M_putCode_8 : decode prog_13_method_44_code 8 = .ok (.iload_n 1, 1) := by decide +kernel
theorem d_M_putCode_9 : decode prog_13_method_44_code 9 = .ok (.invokevirtual 253, 3) := by decide +kernel
theorem d_M_putCode_12 : decode prog_13_method_44_code 12 = .ok (.goto 76, 3) := by decide +kernel
theorem d_M_putCode_15 : decode prog_13_method_44_code 15 = .ok (.iload_n 1, 1) := by decide +kernel
theorem d_M_putCode_16 : decode prog_13_method_44_code 16 = .ok (.sipush 2048, 3) := by decide +kernel
theorem d_M_putCode_19 : decode prog_13_method_44_code 19 = .ok (.if_icmp .ge 30, 3) := by decide +kernel
theorem d_M_putCode_22 : decode prog_13_method_44_code 22 = .ok (.aload_n 0, 1) := by decide +kernel
theorem d_M_putCode_23 : decode prog_13_method_44_code 23 = .ok (.sipush 192, 3) := by decide +kernel
theorem d_M_putCode_26 : decode prog_13_method_44_code 26 = .ok (.iload_n 1, 1) := by decide +kernel
theorem d_M_putCode_27 : decode prog_13_method_44_code 27 = .ok (.bipush 6, 2) := by decide +kernel
theorem d_M_putCode_29 : decode prog_13_method_44_code 29 = .ok (.ishr, 1) := by decide +kernel
theorem d_M_putCode_30 : decode prog_13_method_44_code 30 = .ok (.iadd, 1) := by decide +kernel
theorem d_M_putCode_31 : decode prog_13_method_44_code 31 = .ok (.invokevirtual 253, 3) := by decide +kernel
theorem d_M_putCode_34 : decode prog_13_method_44_code 34 = .ok (.aload_n 0, 1) := by decide +kernel
theorem d_M_putCode_35 : decode prog_13_method_44_code 35 = .ok (.sipush 128, 3) := by decide +kernel
theorem d_M_putCode_38 : decode prog_13_method_44_code 38 = .ok (.iload_n 1, 1) := by decide +kernel
theorem d_M_putCode_39 : decode prog_13_method_44_code 39 = .ok (.bipush 63, 2) := by decide +kernel
theorem d_M_putCode_41 : decode prog_13_method_44_code 41 = .ok (.iand, 1) := by decide +kernel
theorem d_M_putCode_42 : decode prog_13_method_44_code 42 = .ok (.iadd, 1) := by decide +kernel
theorem d_M_putCode_43 : decode prog_13_method_44_code 43 = .ok (.invokevirtual 253, 3) := by decide +kernel
theorem d_M_putCode_46 : decode prog_13_method_44_code 46 = .ok (.goto 42, 3) := by decide +kernel
theorem d_M_putCode_49 : decode prog_13_method_44_code 49 = .ok (.aload_n 0, 1) := by decide +kernel
theorem d_M_putCode_50 : decode prog_13_method_44_code 50 = .ok (.sipush 224, 3) := by decide +kernel
theorem d_M_putCode_53 : decode prog_13_method_44_code 53 = .ok (.iload_n 1, 1) := by decide +kernel
theorem d_M_putCode_54 : decode prog_13_method_44_code 54 = .ok (.bipush 12, 2) := by decide +kernel
theorem d_M_putCode_56 : decode prog_13_method_44_code 56 = .ok (.ishr, 1) := by decide +kernel
theorem d_M_putCode_57 : decode prog_13_method_44_code 57 = .ok (.iadd, 1) := by decide +kernel
theorem d_M_putCode_58 : decode prog_13_method_44_code 58 = .ok (.invokevirtual 253, 3) := by decide +kernel
theorem d_M_putCode_61 : decode prog_13_method_44_code 61 = .ok (.aload_n 0, 1) := by decide +kernel
theorem d_M_putCode_62 : decode prog_13_method_44_code 62 = .ok (.sipush 128, 3) := by decide +kernel
theorem d_M_putCode_65 : decode prog_13_method_44_code 65 = .ok (.iload_n 1, 1) := by decide +kernel
theorem d_M_putCode_66 : decode prog_13_method_44_code 66 = .ok (.bipush 6, 2) := by decide +kernel
theorem d_M_putCode_68 : decode prog_13_method_44_code 68 = .ok (.ishr, 1) := by decide +kernel
theorem d_M_putCode_69 : decode prog_13_method_44_code 69 = .ok (.bipush 63, 2) := by decide +kernel
theorem d_M_putCode_71 : decode prog_13_method_44_code 71 = .ok (.iand, 1) := by decide +kernel
theorem d_M_putCode_72 : decode prog_13_method_44_code 72 = .ok (.iadd, 1) := by decide +kernel
theorem d_M_putCode_73 : decode prog_13_method_44_code 73 = .ok (.invokevirtual 253, 3) := by decide +kernel
theorem d_M_putCode_76 : decode prog_13_method_44_code 76 = .ok (.aload_n 0, 1) := by decide +kernel
theorem d_M_putCode_77 : decode prog_13_method_44_code 77 = .ok (.sipush 128, 3) := by decide +kernel
theorem d_M_putCode_80 : decode prog_13_method_44_code 80 = .ok (.iload_n 1, 1) := by decide +kernel
theorem d_M_putCode_81 : decode prog_13_method_44_code 81 = .ok (.bipush 63, 2) := by decide +kernel
theorem d_M_putCode_83 : decode prog_13_method_44_code 83 = .ok (.iand, 1) := by decide +kernel
theorem d_M_putCode_84 : decode prog_13_method_44_code 84 = .ok (.iadd, 1) := by decide +kernel
theorem d_M_putCode_85 : decode prog_13_method_44_code 85 = .ok (.invokevirtual 253, 3) := by decide +kernel
theorem d_M_putCode_88 : decode prog_13_method_44_code 88 = .ok (.return_, 1) := by decide +kernel
theorem d_M_write_0 : decode prog_13_method_45_code 0 = .ok (.aload_n 0, 1) := by decide +kernel
theorem d_M_write_1 : decode prog_13_method_45_code 1 = .ok (.iload_n 1, 1) := by decide +kernel
theorem d_M_write_2 : decode prog_13_method_45_code 2 = .ok (.invokevirtual 257, 3) := by decide +kernel
theorem d_M_write_5 : decode prog_13_method_45_code 5 = .ok (.iload_n 1, 1) := by decide +kernel
theorem d_M_write_6 : decode prog_13_method_45_code 6 = .ok (.invokestatic 90, 3) := by decide +kernel
theorem d_M_write_9 : decode prog_13_method_45_code 9 = .ok (.ifCond .eq 64, 3) := by decide +kernel
theorem d_M_write_12 : decode prog_13_method_45_code 12 = .ok (.aload_n 0, 1) := by decide +kernel
theorem d_M_write_13 : decode prog_13_method_45_code 13 = .ok (.getfield 68, 3) := by decide +kernel
theorem d_M_write_16 : decode prog_13_method_45_code 16 = .ok (.ifCond .lt 57, 3) := by decide +kernel
theorem d_M_write_19 : decode prog_13_method_45_code 19 = .ok (.aload_n 0, 1) := by decide +kernel
theorem d_M_write_20 : decode prog_13_method_45_code 20 = .ok (.getfield 56, 3) := by decide +kernel
theorem d_M_write_23 : decode prog_13_method_45_code 23 = .ok (.aload_n 0, 1) := by decide +kernel
theorem d_M_write_24 : decode prog_13_method_45_code 24 = .ok (.getfield 68, 3) := by decide +kernel
theorem d_M_write_27 : decode prog_13_method_45_code 27 = .ok (.iaload, 1) := by decide +kernel
theorem d_M_write_28 : decode prog_13_method_45_code 28 = .ok (.ldc 221, 2) := by decide +kernel
theorem d_M_write_30 : decode prog_13_method_45_code 30 = .ok (.if_icmp .ge 43, 3) := by decide +kernel
theorem d_M_write_33 : decode prog_13_method_45_code 33 = .ok (.aload_n 0, 1) := by decide +kernel
theorem d_M_write_34 : decode prog_13_method_45_code 34 = .ok (.getfield 56, 3) := by decide +kernel
theorem d_M_write_37 : decode prog_13_method_45_code 37 = .ok (.aload_n 0, 1) := by decide +kernel
theorem d_M_write_38 : decode prog_13_method_45_code 38 = .ok (.getfield 68, 3) := by decide +kernel
theorem d_M_write_41 : decode prog_13_method_45_code 41 = .ok (.dup2, 1) := by decide +kernel
theorem d_M_write_42 : decode prog_13_method_45_code 42 = .ok (.iaload, 1) := by decide +kernel
theorem d_M_write_43 : decode prog_13_method_45_code 43 = .ok (.aload_n 0, 1) := by decide +kernel
theorem d_M_write_44 : decode prog_13_method_45_code 44 = .ok (.getfield 56, 3) := by decide +kernel
theorem d_M_write_47 : decode prog_13_method_45_code 47 = .ok (.aload_n 0, 1) := by decide +kernel
theorem d_M_write_48 : decode prog_13_method_45_code 48 = .ok (.getfield 68, 3) := by decide +kernel
theorem d_M_write_51 : decode prog_13_method_45_code 51 = .ok (.iaload, 1) := by decide +kernel
theorem d_M_write_52 : decode prog_13_method_45_code 52 = .ok (.ldc 220, 2) := by decide +kernel
theorem d_M_write_54 : decode prog_13_method_45_code 54 = .ok (.if_icmp .ge 8, 3) := by decide +kernel
theorem d_M_write_57 : decode prog_13_method_45_code 57 = .ok (.ldc 220, 2) := by decide +kernel
theorem d_M_write_59 : decode prog_13_method_45_code 59 = .ok (.goto 5, 3) := by decide +kernel
theorem d_M_write_62 : decode prog_13_method_45_code 62 = .ok (.ldc 221, 2) := by decide +kernel
theorem d_M_write_64 : decode prog_13_method_45_code 64 = .ok (.iload_n 1, 1) := by decide +kernel
theorem d_M_write_65 : decode prog_13_method_45_code 65 = .ok (.sipush 767, 3) := by decide +kernel
theorem d_M_write_68 : decode prog_13_method_45_code 68 = .ok (.isub, 1) := by decide +kernel
theorem d_M_write_69 : decode prog_13_method_45_code 69 = .ok (.imul, 1) := by decide +kernel
theorem d_M_write_70 : decode prog_13_method_45_code 70 = .ok (.iadd, 1) := by decide +kernel
theorem d_M_write_71 : decode prog_13_method_45_code 71 = .ok (.iastore, 1) := by decide +kernel
theorem d_M_write_72 : decode prog_13_method_45_code 72 = .ok (.return_, 1) := by decide +kernel
theorem d_M_write_73 : decode prog_13_method_45_code 73 = .ok (.aload_n 0, 1) := by decide +kernel
theorem d_M_write_74 : decode prog_13_method_45_code 74 = .ok (.getfield 260, 3) := by decide +kernel
theorem d_M_write_77 : decode prog_13_method_45_code 77 = .ok (.ifCond .eq 43, 3) := by decide +kernel
theorem d_M_write_80 : decode prog_13_method_45_code 80 = .ok (.aload_n 0, 1) := by decide +kernel
theorem d_M_write_81 : decode prog_13_method_45_code 81 = .ok (.aload_n 0, 1) := by decide +kernel
theorem d_M_write_82 : decode prog_13_method_45_code 82 = .ok (.getfield 263, 3) := by decide +kernel
theorem d_M_write_85 : decode prog_13_method_45_code 85 = .ok (.aload_n 0, 1) := by decide +kernel
theorem d_M_write_86 : decode prog_13_method_45_code 86 = .ok (.getfield 81, 3) := by decide +kernel
theorem d_M_write_89 : decode prog_13_method_45_code 89 = .ok (.iconst 1, 1) := by decide +kernel
theorem d_M_write_90 : decode prog_13_method_45_code 90 = .ok (.isub, 1) := by decide +kernel
theorem d_M_write_91 : decode prog_13_method_45_code 91 = .ok (.if_icmp .ge 12, 3) := by decide +kernel
theorem d_M_write_94 : decode prog_13_method_45_code 94 = .ok (.aload_n 0, 1) := by decide +kernel
theorem d_M_write_95 : decode prog_13_method_45_code 95 = .ok (.getfield 263, 3) := by decide +kernel
theorem d_M_write_98 : decode prog_13_method_45_code 98 = .ok (.iconst 1, 1) := by decide +kernel
theorem d_M_write_99 : decode prog_13_method_45_code 99 = .ok (.iadd, 1) := by decide +kernel
theorem d_M_write_100 : decode prog_13_method_45_code 100 = .ok (.goto 7, 3) := by decide +kernel
theorem d_M_write_103 : decode prog_13_method_45_code 103 = .ok (.aload_n 0, 1) := by decide +kernel
theorem d_M_write_104 : decode prog_13_method_45_code 104 = .ok (.getfield 263, 3) := by decide +kernel
theorem d_M_write_107 : decode prog_13_method_45_code 107 = .ok (.putfield 263, 3) := by decide +kernel
theorem d_M_write_110 : decode prog_13_method_45_code 110 = .ok (.aload_n 0, 1) := by decide +kernel
theorem d_M_write_111 : decode prog_13_method_45_code 111 = .ok (.iconst 0, 1) := by decide +kernel
theorem d_M_write_112 : decode prog_13_method_45_code 112 = .ok (.putfield 266, 3) := by decide +kernel
theorem d_M_write_115 : decode prog_13_method_45_code 115 = .ok (.aload_n 0, 1) := by decide +kernel
theorem d_M_write_116 : decode prog_13_method_45_code 116 = .ok (.iconst 0, 1) := by decide +kernel
theorem d_M_write_117 : decode prog_13_method_45_code 117 = .ok (.putfield 260, 3) := by decide +kernel
theorem d_M_write_120 : decode prog_13_method_45_code 120 = .ok (.iload_n 1, 1) := by decide +kernel
theorem d_M_write_121 : decode prog_13_method_45_code 121 = .ok (.invokestatic 97, 3) := by decide +kernel
theorem d_M_write_124 : decode prog_13_method_45_code 124 = .ok (.ifCond .eq 7, 3) := by decide +kernel
theorem d_M_write_127 : decode prog_13_method_45_code 127 = .ok (.iconst 2, 1) := by decide +kernel
theorem d_M_write_128 : decode prog_13_method_45_code 128 = .ok (.goto 4, 3) := by decide +kernel
theorem d_M_write_131 : decode prog_13_method_45_code 131 = .ok (.iconst 1, 1) := by decide +kernel
theorem d_M_write_132 : decode prog_13_method_45_code 132 = .ok (.istore_n 2, 1) := by decide +kernel
theorem d_M_write_133 : decode prog_13_method_45_code 133 = .ok (.aload_n 0, 1) := by decide +kernel
theorem d_M_write_134 : decode prog_13_method_45_code 134 = .ok (.getfield 78, 3) := by decide +kernel
theorem d_M_write_137 : decode prog_13_method_45_code 137 = .ok (.aload_n 0, 1) := by decide +kernel
theorem d_M_write_138 : decode prog_13_method_45_code 138 = .ok (.getfield 263, 3) := by decide +kernel
theorem d_M_write_141 : decode prog_13_method_45_code 141 = .ok (.imul, 1) := by decide +kernel
theorem d_M_write_142 : decode prog_13_method_45_code 142 = .ok (.aload_n 0, 1) := by decide +kernel
theorem d_M_write_143 : decode prog_13_method_45_code 143 = .ok (.getfield 266, 3) := by decide +kernel
theorem d_M_write_146 : decode prog_13_method_45_code 146 = .ok (.iadd, 1) := by decide +kernel
theorem d_M_write_147 : decode prog_13_method_45_code 147 = .ok (.istore_n 3, 1) := by decide +kernel
theorem d_M_write_148 : decode prog_13_method_45_code 148 = .ok (.aload_n 0, 1) := by decide +kernel
theorem d_M_write_149 : decode prog_13_method_45_code 149 = .ok (.iload_n 3, 1) := by decide +kernel
theorem d_M_write_150 : decode prog_13_method_45_code 150 = .ok (.invokevirtual 269, 3) := by decide +kernel
theorem d_M_write_153 : decode prog_13_method_45_code 153 = .ok (.iload_n 2, 1) := by decide +kernel
theorem d_M_write_154 : decode prog_13_method_45_code 154 = .ok (.iconst 2, 1) := by decide +kernel
theorem d_M_write_155 : decode prog_13_method_45_code 155 = .ok (.if_icmp .ne 10, 3) := by decide +kernel
theorem d_M_write_158 : decode prog_13_method_45_code 158 = .ok (.aload_n 0, 1) := by decide +kernel
theorem d_M_write_159 : decode prog_13_method_45_code 159 = .ok (.iload_n 3, 1) := by decide +kernel
theorem d_M_write_160 : decode prog_13_method_45_code 160 = .ok (.iconst 1, 1) := by decide +kernel
theorem d_M_write_161 : decode prog_13_method_45_code 161 = .ok (.iadd, 1) := by decide +kernel
theorem d_M_write_162 : decode prog_13_method_45_code 162 = .ok (.invokevirtual 269, 3) := by decide +kernel
theorem d_M_write_165 : decode prog_13_method_45_code 165 = .ok (.aload_n 0, 1) := by decide +kernel
theorem d_M_write_166 : decode prog_13_method_45_code 166 = .ok (.getfield 56, 3) := by decide +kernel
theorem d_M_write_169 : decode prog_13_method_45_code 169 = .ok (.iload_n 3, 1) := by decide +kernel
theorem d_M_write_170 : decode prog_13_method_45_code 170 = .ok (.iload_n 1, 1) := by decide +kernel
theorem d_M_write_171 : decode prog_13_method_45_code 171 = .ok (.iastore, 1) := by decide +kernel
theorem d_M_write_172 : decode prog_13_method_45_code 172 = .ok (.aload_n 0, 1) := by decide +kernel
theorem d_M_write_173 : decode prog_13_method_45_code 173 = .ok (.getfield 59, 3) := by decide +kernel
theorem d_M_write_176 : decode prog_13_method_45_code 176 = .ok (.iload_n 3, 1) := by decide +kernel
theorem d_M_write_177 : decode prog_13_method_45_code 177 = .ok (.aload_n 0, 1) := by decide +kernel
theorem d_M_write_178 : decode prog_13_method_45_code 178 = .ok (.getfield 272, 3) := by decide +kernel
theorem d_M_write_181 : decode prog_13_method_45_code 181 = .ok (.iastore, 1) := by decide +kernel
theorem d_M_write_182 : decode prog_13_method_45_code 182 = .ok (.iload_n 2, 1) := by decide +kernel
theorem d_M_write_183 : decode prog_13_method_45_code 183 = .ok (.iconst 2, 1) := by decide +kernel
theorem d_M_write_184 : decode prog_13_method_45_code 184 = .ok (.if_icmp .ne 24, 3) := by decide +kernel
theorem d_M_write_187 : decode prog_13_method_45_code 187 = .ok (.aload_n 0, 1) := by decide +kernel
theorem d_M_write_188 : decode prog_13_method_45_code 188 = .ok (.getfield 56, 3) := by decide +kernel
theorem d_M_write_191 : decode prog_13_method_45_code 191 = .ok (.iload_n 3, 1) := by decide +kernel
theorem d_M_write_192 : decode prog_13_method_45_code 192 = .ok (.iconst 1, 1) := by decide +kernel
theorem d_M_write_193 : decode prog_13_method_45_code 193 = .ok (.iadd, 1) := by decide +kernel
theorem d_M_write_194 : decode prog_13_method_45_code 194 = .ok (.iconst 0, 1) := by decide +kernel
theorem d_M_write_195 : decode prog_13_method_45_code 195 = .ok (.iastore, 1) := by decide +kernel
theorem d_M_write_196 : decode prog_13_method_45_code 196 = .ok (.aload_n 0, 1) := by decide +kernel
theorem d_M_write_197 : decode prog_13_method_45_code 197 = .ok (.getfield 59, 3) := by decide +kernel
theorem d_M_write_200 : decode prog_13_method_45_code 200 = .ok (.iload_n 3, 1) := by decide +kernel
theorem d_M_write_201 : decode prog_13_method_45_code 201 = .ok (.iconst 1, 1) := by decide +kernel
theorem d_M_write_202 : decode prog_13_method_45_code 202 = .ok (.iadd, 1) := by decide +kernel
theorem d_M_write_203 : decode prog_13_method_45_code 203 = .ok (.aload_n 0, 1) := by decide +kernel
theorem d_M_write_204 : decode prog_13_method_45_code 204 = .ok (.getfield 272, 3) := by decide +kernel
theorem d_M_write_207 : decode prog_13_method_45_code 207 = .ok (.iastore, 1) := by decide +kernel
theorem d_M_write_208 : decode prog_13_method_45_code 208 = .ok (.aload_n 0, 1) := by decide +kernel
theorem d_M_write_209 : decode prog_13_method_45_code 209 = .ok (.iload_n 3, 1) := by decide +kernel
theorem d_M_write_210 : decode prog_13_method_45_code 210 = .ok (.putfield 68, 3) := by decide +kernel
theorem d_M_write_213 : decode prog_13_method_45_code 213 = .ok (.aload_n 0, 1) := by decide +kernel
theorem d_M_write_214 : decode prog_13_method_45_code 214 = .ok (.dup, 1) := by decide +kernel
theorem d_M_write_215 : decode prog_13_method_45_code 215 = .ok (.getfield 266, 3) := by decide +kernel
theorem d_M_write_218 : decode prog_13_method_45_code 218 = .ok (.iload_n 2, 1) := by decide +kernel
theorem d_M_write_219 : decode prog_13_method_45_code 219 = .ok (.iadd, 1) := by decide +kernel
theorem d_M_write_220 : decode prog_13_method_45_code 220 = .ok (.putfield 266, 3) := by decide +kernel
theorem d_M_write_223 : decode prog_13_method_45_code 223 = .ok (.aload_n 0, 1) := by decide +kernel
theorem d_M_write_224 : decode prog_13_method_45_code 224 = .ok (.getfield 266, 3) := by decide +kernel
theorem d_M_write_227 : decode prog_13_method_45_code 227 = .ok (.aload_n 0, 1) := by decide +kernel
theorem d_M_write_228 : decode prog_13_method_45_code 228 = .ok (.getfield 78, 3) := by decide +kernel
theorem d_M_write_231 : decode prog_13_method_45_code 231 = .ok (.if_icmp .ne 18, 3) := by decide +kernel
theorem d_M_write_234 : decode prog_13_method_45_code 234 = .ok (.aload_n 0, 1) := by decide +kernel
theorem d_M_write_235 : decode prog_13_method_45_code 235 = .ok (.aload_n 0, 1) := by decide +kernel
theorem d_M_write_236 : decode prog_13_method_45_code 236 = .ok (.getfield 78, 3) := by decide +kernel
theorem d_M_write_239 : decode prog_13_method_45_code 239 = .ok (.iconst 1, 1) := by decide +kernel
theorem d_M_write_240 : decode prog_13_method_45_code 240 = .ok (.isub, 1) := by decide +kernel
theorem d_M_write_241 : decode prog_13_method_45_code 241 = .ok (.putfield 266, 3) := by decide +kernel
theorem d_M_write_244 : decode prog_13_method_45_code 244 = .ok (.aload_n 0, 1) := by decide +kernel
theorem d_M_write_245 : decode prog_13_method_45_code 245 = .ok (.iconst 1, 1) := by decide +kernel
theorem d_M_write_246 : decode prog_13_method_45_code 246 = .ok (.putfield 260, 3) := by decide +kernel
theorem d_M_write_249 : decode prog_13_method_45_code 249 = .ok (.return_, 1) := by decide +kernel
theorem d_M_sendPlace_0 : decode prog_13_method_46_code 0 = .ok (.aload_n 0, 1) := by decide +kernel
theorem d_M_sendPlace_1 : decode prog_13_method_46_code 1 = .ok (.invokevirtual 275, 3) := by decide +kernel
theorem d_M_sendPlace_4 : decode prog_13_method_46_code 4 = .ok (.aload_n 0, 1) := by decide +kernel
theorem d_M_sendPlace_5 : decode prog_13_method_46_code 5 = .ok (.iload_n 1, 1) := by decide +kernel
theorem d_M_sendPlace_6 : decode prog_13_method_46_code 6 = .ok (.iconst 1, 1) := by decide +kernel
theorem d_M_sendPlace_7 : decode prog_13_method_46_code 7 = .ok (.iadd, 1) := by decide +kernel
theorem d_M_sendPlace_8 : decode prog_13_method_46_code 8 = .ok (.invokevirtual 278, 3) := by decide +kernel
theorem d_M_sendPlace_11 : decode prog_13_method_46_code 11 = .ok (.aload_n 0, 1) := by decide +kernel
theorem d_M_sendPlace_12 : decode prog_13_method_46_code 12 = .ok (.bipush 59, 2) := by decide +kernel
theorem d_M_sendPlace_14 : decode prog_13_method_46_code 14 = .ok (.invokevirtual 253, 3) := by decide +kernel
theorem d_M_sendPlace_17 : decode prog_13_method_46_code 17 = .ok (.aload_n 0, 1) := by decide +kernel
theorem d_M_sendPlace_18 : decode prog_13_method_46_code 18 = .ok (.iload_n 2, 1) := by decide +kernel
theorem d_M_sendPlace_19 : decode prog_13_method_46_code 19 = .ok (.iconst 1, 1) := by decide +kernel
theorem d_M_sendPlace_20 : decode prog_13_method_46_code 20 = .ok (.iadd, 1) := by decide +kernel
theorem d_M_sendPlace_21 : decode prog_13_method_46_code 21 = .ok (.invokevirtual 278, 3) := by decide +kernel
theorem d_M_sendPlace_24 : decode prog_13_method_46_code 24 = .ok (.aload_n 0, 1) := by decide +kernel
theorem d_M_sendPlace_25 : decode prog_13_method_46_code 25 = .ok (.bipush 72, 2) := by decide +kernel
theorem d_M_sendPlace_27 : decode prog_13_method_46_code 27 = .ok (.invokevirtual 253, 3) := by decide +kernel
theorem d_M_sendPlace_30 : decode prog_13_method_46_code 30 = .ok (.return_, 1) := by decide +kernel
theorem d_M_go_0 : decode prog_13_method_47_code 0 = .ok (.iload_n 1, 1) := by decide +kernel
theorem d_M_go_1 : decode prog_13_method_47_code 1 = .ok (.aload_n 0, 1) := by decide +kernel
theorem d_M_go_2 : decode prog_13_method_47_code 2 = .ok (.getfield 263, 3) := by decide +kernel
theorem d_M_go_5 : decode prog_13_method_47_code 5 = .ok (.if_icmp .ne 22, 3) := by decide +kernel
theorem d_M_go_8 : decode prog_13_method_47_code 8 = .ok (.iload_n 2, 1) := by decide +kernel
theorem d_M_go_9 : decode prog_13_method_47_code 9 = .ok (.aload_n 0, 1) := by decide +kernel
theorem d_M_go_10 : decode prog_13_method_47_code 10 = .ok (.getfield 266, 3) := by decide +kernel
theorem d_M_go_13 : decode prog_13_method_47_code 13 = .ok (.if_icmp .ne 14, 3) := by decide +kernel
theorem d_M_go_16 : decode prog_13_method_47_code 16 = .ok (.aload_n 0, 1) := by decide +kernel
theorem d_M_go_17 : decode prog_13_method_47_code 17 = .ok (.getfield 260, 3) := by decide +kernel
theorem d_M_go_20 : decode prog_13_method_47_code 20 = .ok (.ifCond .ne 7, 3) := by decide +kernel
theorem d_M_go_23 : decode prog_13_method_47_code 23 = .ok (.iconst 1, 1) := by decide +kernel
theorem d_M_go_24 : decode prog_13_method_47_code 24 = .ok (.goto 4, 3) := by decide +kernel
theorem d_M_go_27 : decode prog_13_method_47_code 27 = .ok (.iconst 0, 1) := by decide +kernel
theorem d_M_go_28 : decode prog_13_method_47_code 28 = .ok (.istore 4, 2) := by decide +kernel
theorem d_M_go_30 : decode prog_13_method_47_code 30 = .ok (.iload 4, 2) := by decide +kernel
theorem d_M_go_32 : decode prog_13_method_47_code 32 = .ok (.ifCond .eq 8, 3) := by decide +kernel
theorem d_M_go_35 : decode prog_13_method_47_code 35 = .ok (.iload_n 3, 1) := by decide +kernel
theorem d_M_go_36 : decode prog_13_method_47_code 36 = .ok (.ifCond .ne 4, 3) := by decide +kernel
theorem d_M_go_39 : decode prog_13_method_47_code 39 = .ok (.return_, 1) := by decide +kernel
theorem d_M_go_40 : decode prog_13_method_47_code 40 = .ok (.iload_n 3, 1) := by decide +kernel
theorem d_M_go_41 : decode prog_13_method_47_code 41 = .ok (.ifCond .eq 12, 3) := by decide +kernel
theorem d_M_go_44 : decode prog_13_method_47_code 44 = .ok (.aload_n 0, 1) := by decide +kernel
theorem d_M_go_45 : decode prog_13_method_47_code 45 = .ok (.iload_n 1, 1) := by decide +kernel
theorem d_M_go_46 : decode prog_13_method_47_code 46 = .ok (.iload_n 2, 1) := by decide +kernel
theorem d_M_go_47 : decode prog_13_method_47_code 47 = .ok (.invokevirtual 281, 3) := by decide +kernel
theorem d_M_go_50 : decode prog_13_method_47_code 50 = .ok (.goto 115, 3) := by decide +kernel
theorem d_M_go_53 : decode prog_13_method_47_code 53 = .ok (.iload_n 1, 1) := by decide +kernel
theorem d_M_go_54 : decode prog_13_method_47_code 54 = .ok (.aload_n 0, 1) := by decide +kernel
theorem d_M_go_55 : decode prog_13_method_47_code 55 = .ok (.getfield 263, 3) := by decide +kernel
theorem d_M_go_58 : decode prog_13_method_47_code 58 = .ok (.if_icmp .ne 51, 3) := by decide +kernel
theorem d_M_go_61 : decode prog_13_method_47_code 61 = .ok (.aload_n 0, 1) := by decide +kernel
theorem d_M_go_62 : decode prog_13_method_47_code 62 = .ok (.getfield 260, 3) := by decide +kernel
theorem d_M_go_65 : decode prog_13_method_47_code 65 = .ok (.ifCond .ne 44, 3) := by decide +kernel
theorem d_M_go_68 : decode prog_13_method_47_code 68 = .ok (.iload_n 2, 1) := by decide +kernel
theorem d_M_go_69 : decode prog_13_method_47_code 69 = .ok (.aload_n 0, 1) := by decide +kernel
theorem d_M_go_70 : decode prog_13_method_47_code 70 = .ok (.getfield 266, 3) := by decide +kernel
theorem d_M_go_73 : decode prog_13_method_47_code 73 = .ok (.if_icmp .le 36, 3) := by decide +kernel
theorem d_M_go_76 : decode prog_13_method_47_code 76 = .ok (.aload_n 0, 1) := by decide +kernel
theorem d_M_go_77 : decode prog_13_method_47_code 77 = .ok (.invokevirtual 275, 3) := by decide +kernel
theorem d_M_go_80 : decode prog_13_method_47_code 80 = .ok (.iload_n 2, 1) := by decide +kernel
theorem d_M_go_81 : decode prog_13_method_47_code 81 = .ok (.aload_n 0, 1) := by decide +kernel
theorem d_M_go_82 : decode prog_13_method_47_code 82 = .ok (.getfield 266, 3) := by decide +kernel
theorem d_M_go_85 : decode prog_13_method_47_code 85 = .ok (.isub, 1) := by decide +kernel
theorem d_M_go_86 : decode prog_13_method_47_code 86 = .ok (.iconst 1, 1) := by decide +kernel
theorem d_M_go_87 : decode prog_13_method_47_code 87 = .ok (.if_icmp .le 13, 3) := by decide +kernel
theorem d_M_go_90 : decode prog_13_method_47_code 90 = .ok (.aload_n 0, 1) := by decide +kernel
theorem d_M_go_91 : decode prog_13_method_47_code 91 = .ok (.iload_n 2, 1) := by decide +kernel
theorem d_M_go_92 : decode prog_13_method_47_code 92 = .ok (.aload_n 0, 1) := by decide +kernel
theorem d_M_go_93 : decode prog_13_method_47_code 93 = .ok (.getfield 266, 3) := by decide +kernel
theorem d_M_go_96 : decode prog_13_method_47_code 96 = .ok (.isub, 1) := by decide +kernel
theorem d_M_go_97 : decode prog_13_method_47_code 97 = .ok (.invokevirtual 278, 3) := by decide +kernel
theorem d_M_go_100 : decode prog_13_method_47_code 100 = .ok (.aload_n 0, 1) := by decide +kernel
theorem d_M_go_101 : decode prog_13_method_47_code 101 = .ok (.bipush 67, 2) := by decide +kernel
theorem d_M_go_103 : decode prog_13_method_47_code 103 = .ok (.invokevirtual 253, 3) := by decide +kernel
theorem d_M_go_106 : decode prog_13_method_47_code 106 = .ok (.goto 59, 3) := by decide +kernel
theorem d_M_go_109 : decode prog_13_method_47_code 109 = .ok (.iload_n 1, 1) := by decide +kernel
theorem d_M_go_110 : decode prog_13_method_47_code 110 = .ok (.aload_n 0, 1) := by decide +kernel
theorem d_M_go_111 : decode prog_13_method_47_code 111 = .ok (.getfield 263, 3) := by decide +kernel
theorem d_M_go_114 : decode prog_13_method_47_code 114 = .ok (.if_icmp .ne 16, 3) := by decide +kernel
theorem d_M_go_117 : decode prog_13_method_47_code 117 = .ok (.iload_n 2, 1) := by decide +kernel
theorem d_M_go_118 : decode prog_13_method_47_code 118 = .ok (.ifCond .ne 12, 3) := by decide +kernel
theorem d_M_go_121 : decode prog_13_method_47_code 121 = .ok (.aload_n 0, 1) := by decide +kernel
theorem d_M_go_122 : decode prog_13_method_47_code 122 = .ok (.bipush 13, 2) := by decide +kernel
theorem d_M_go_124 : decode prog_13_method_47_code 124 = .ok (.invokevirtual 253, 3) := by decide +kernel
theorem d_M_go_127 : decode prog_13_method_47_code 127 = .ok (.goto 38, 3) := by decide +kernel
theorem d_M_go_130 : decode prog_13_method_47_code 130 = .ok (.iload_n 1, 1) := by decide +kernel
theorem d_M_go_131 : decode prog_13_method_47_code 131 = .ok (.aload_n 0, 1) := by decide +kernel
theorem d_M_go_132 : decode prog_13_method_47_code 132 = .ok (.getfield 263, 3) := by decide +kernel
theorem d_M_go_135 : decode prog_13_method_47_code 135 = .ok (.iconst 1, 1) := by decide +kernel
theorem d_M_go_136 : decode prog_13_method_47_code 136 = .ok (.iadd, 1) := by decide +kernel
theorem d_M_go_137 : decode prog_13_method_47_code 137 = .ok (.if_icmp .ne 22, 3) := by decide +kernel
theorem d_M_go_140 : decode prog_13_method_47_code 140 = .ok (.iload_n 2, 1) := by decide +kernel
theorem d_M_go_141 : decode prog_13_method_47_code 141 = .ok (.ifCond .ne 18, 3) := by decide +kernel
theorem d_M_go_144 : decode prog_13_method_47_code 144 = .ok (.aload_n 0, 1) := by decide +kernel
theorem d_M_go_145 : decode prog_13_method_47_code 145 = .ok (.bipush 13, 2) := by decide +kernel
theorem d_M_go_147 : decode prog_13_method_47_code 147 = .ok (.invokevirtual 253, 3) := by decide +kernel
theorem d_M_go_150 : decode prog_13_method_47_code 150 = .ok (.aload_n 0, 1) := by decide +kernel
theorem d_M_go_151 : decode prog_13_method_47_code 151 = .ok (.bipush 10, 2) := by decide +kernel
theorem d_M_go_153 : decode prog_13_method_47_code 153 = .ok (.invokevirtual 253, 3) := by decide +kernel
theorem d_M_go_156 : decode prog_13_method_47_code 156 = .ok (.goto 9, 3) := by decide +kernel
theorem d_M_go_159 : decode prog_13_method_47_code 159 = .ok (.aload_n 0, 1) := by decide +kernel
theorem d_M_go_160 : decode prog_13_method_47_code 160 = .ok (.iload_n 1, 1) := by decide +kernel
theorem d_M_go_161 : decode prog_13_method_47_code 161 = .ok (.iload_n 2, 1) := by decide +kernel
theorem d_M_go_162 : decode prog_13_method_47_code 162 = .ok (.invokevirtual 281, 3) := by decide +kernel
theorem d_M_go_165 : decode prog_13_method_47_code 165 = .ok (.aload_n 0, 1) := by decide +kernel
theorem d_M_go_166 : decode prog_13_method_47_code 166 = .ok (.iload_n 1, 1) := by decide +kernel
theorem d_M_go_167 : decode prog_13_method_47_code 167 = .ok (.putfield 263, 3) := by decide +kernel
theorem d_M_go_170 : decode prog_13_method_47_code 170 = .ok (.aload_n 0, 1) := by decide +kernel
theorem d_M_go_171 : decode prog_13_method_47_code 171 = .ok (.iload_n 2, 1) := by decide +kernel
theorem d_M_go_172 : decode prog_13_method_47_code 172 = .ok (.putfield 266, 3) := by decide +kernel
theorem d_M_go_175 : decode prog_13_method_47_code 175 = .ok (.aload_n 0, 1) := by decide +kernel
theorem d_M_go_176 : decode prog_13_method_47_code 176 = .ok (.iconst 0, 1) := by decide +kernel
theorem d_M_go_177 : decode prog_13_method_47_code 177 = .ok (.putfield 260, 3) := by decide +kernel
theorem d_M_go_180 : decode prog_13_method_47_code 180 = .ok (.aload_n 0, 1) := by decide +kernel
theorem d_M_go_181 : decode prog_13_method_47_code 181 = .ok (.iconst (-1), 1) := by decide +kernel
theorem d_M_go_182 : decode prog_13_method_47_code 182 = .ok (.putfield 68, 3) := by decide +kernel
theorem d_M_go_185 : decode prog_13_method_47_code 185 = .ok (.return_, 1) := by decide +kernel
theorem d_M_setLook_0 : decode prog_13_method_48_code 0 = .ok (.aload_n 0, 1) := by decide +kernel
theorem d_M_setLook_1 : decode prog_13_method_48_code 1 = .ok (.invokevirtual 275, 3) := by decide +kernel
theorem d_M_setLook_4 : decode prog_13_method_48_code 4 = .ok (.aload_n 0, 1) := by decide +kernel
theorem d_M_setLook_5 : decode prog_13_method_48_code 5 = .ok (.bipush 48, 2) := by decide +kernel
theorem d_M_setLook_7 : decode prog_13_method_48_code 7 = .ok (.invokevirtual 253, 3) := by decide +kernel
theorem d_M_setLook_10 : decode prog_13_method_48_code 10 = .ok (.iload_n 1, 1) := by decide +kernel
theorem d_M_setLook_11 : decode prog_13_method_48_code 11 = .ok (.ifCond .le 25, 3) := by decide +kernel
theorem d_M_setLook_14 : decode prog_13_method_48_code 14 = .ok (.aload_n 0, 1) := by decide +kernel
theorem d_M_setLook_15 : decode prog_13_method_48_code 15 = .ok (.bipush 59, 2) := by decide +kernel
theorem d_M_setLook_17 : decode prog_13_method_48_code 17 = .ok (.invokevirtual 253, 3) := by decide +kernel
theorem d_M_setLook_20 : decode prog_13_method_48_code 20 = .ok (.aload_n 0, 1) := by decide +kernel
theorem d_M_setLook_21 : decode prog_13_method_48_code 21 = .ok (.iload_n 1, 1) := by decide +kernel
theorem d_M_setLook_22 : decode prog_13_method_48_code 22 = .ok (.iconst 1, 1) := by decide +kernel
theorem d_M_setLook_23 : decode prog_13_method_48_code 23 = .ok (.if_icmp .ne 8, 3) := by decide +kernel
theorem d_M_setLook_26 : decode prog_13_method_48_code 26 = .ok (.bipush 55, 2) := by decide +kernel
theorem d_M_setLook_28 : decode prog_13_method_48_code 28 = .ok (.goto 5, 3) := by decide +kernel
theorem d_M_setLook_31 : decode prog_13_method_48_code 31 = .ok (.bipush 52, 2) := by decide +kernel
theorem d_M_setLook_33 : decode prog_13_method_48_code 33 = .ok (.invokevirtual 253, 3) := by decide +kernel
theorem d_M_setLook_36 : decode prog_13_method_48_code 36 = .ok (.aload_n 0, 1) := by decide +kernel
theorem d_M_setLook_37 : decode prog_13_method_48_code 37 = .ok (.bipush 109, 2) := by decide +kernel
theorem d_M_setLook_39 : decode prog_13_method_48_code 39 = .ok (.invokevirtual 253, 3) := by decide +kernel
theorem d_M_setLook_42 : decode prog_13_method_48_code 42 = .ok (.aload_n 0, 1) := by decide +kernel
theorem d_M_setLook_43 : decode prog_13_method_48_code 43 = .ok (.iload_n 1, 1) := by decide +kernel
theorem d_M_setLook_44 : decode prog_13_method_48_code 44 = .ok (.putfield 272, 3) := by decide +kernel
theorem d_M_setLook_47 : decode prog_13_method_48_code 47 = .ok (.return_, 1) := by decide +kernel
theorem d_M_sendCluster_0 : decode prog_13_method_49_code 0 = .ok (.aload_n 0, 1) := by decide +kernel
theorem d_M_sendCluster_1 : decode prog_13_method_49_code 1 = .ok (.getfield 78, 3) := by decide +kernel
theorem d_M_sendCluster_4 : decode prog_13_method_49_code 4 = .ok (.iload_n 1, 1) := by decide +kernel
theorem d_M_sendCluster_5 : decode prog_13_method_49_code 5 = .ok (.imul, 1) := by decide +kernel
theorem d_M_sendCluster_6 : decode prog_13_method_49_code 6 = .ok (.iload_n 2, 1) := by decide +kernel
theorem d_M_sendCluster_7 : decode prog_13_method_49_code 7 = .ok (.iadd, 1) := by decide +kernel
theorem d_M_sendCluster_8 : decode prog_13_method_49_code 8 = .ok (.istore_n 3, 1) := by decide +kernel
theorem d_M_sendCluster_9 : decode prog_13_method_49_code 9 = .ok (.aload_n 0, 1) := by decide +kernel
theorem d_M_sendCluster_10 : decode prog_13_method_49_code 10 = .ok (.getfield 50, 3) := by decide +kernel
theorem d_M_sendCluster_13 : decode prog_13_method_49_code 13 = .ok (.iload_n 3, 1) := by decide +kernel
theorem d_M_sendCluster_14 : decode prog_13_method_49_code 14 = .ok (.iaload, 1) := by decide +kernel
theorem d_M_sendCluster_15 : decode prog_13_method_49_code 15 = .ok (.istore 4, 2) := by decide +kernel
theorem d_M_sendCluster_17 : decode prog_13_method_49_code 17 = .ok (.iload 4, 2) := by decide +kernel
theorem d_M_sendCluster_19 : decode prog_13_method_49_code 19 = .ok (.ldc_w 256, 3) := by decide +kernel
theorem d_M_sendCluster_22 : decode prog_13_method_49_code 22 = .ok (.iand, 1) := by decide +kernel
theorem d_M_sendCluster_23 : decode prog_13_method_49_code 23 = .ok (.istore 5, 2) := by decide +kernel
theorem d_M_sendCluster_25 : decode prog_13_method_49_code 25 = .ok (.iload 4, 2) := by decide +kernel
theorem d_M_sendCluster_27 : decode prog_13_method_49_code 27 = .ok (.bipush 16, 2) := by decide +kernel
theorem d_M_sendCluster_29 : decode prog_13_method_49_code 29 = .ok (.ishr, 1) := by decide +kernel
theorem d_M_sendCluster_30 : decode prog_13_method_49_code 30 = .ok (.bipush 127, 2) := by decide +kernel
theorem d_M_sendCluster_32 : decode prog_13_method_49_code 32 = .ok (.iand, 1) := by decide +kernel
theorem d_M_sendCluster_33 : decode prog_13_method_49_code 33 = .ok (.istore 6, 2) := by decide +kernel
theorem d_M_sendCluster_35 : decode prog_13_method_49_code 35 = .ok (.iload 4, 2) := by decide +kernel
theorem d_M_sendCluster_37 : decode prog_13_method_49_code 37 = .ok (.bipush 23, 2) := by decide +kernel
theorem d_M_sendCluster_39 : decode prog_13_method_49_code 39 = .ok (.ishr, 1) := by decide +kernel
theorem d_M_sendCluster_40 : decode prog_13_method_49_code 40 = .ok (.istore 7, 2) := by decide +kernel
theorem d_M_sendCluster_42 : decode prog_13_method_49_code 42 = .ok (.aload_n 0, 1) := by decide +kernel
theorem d_M_sendCluster_43 : decode prog_13_method_49_code 43 = .ok (.iload_n 1, 1) := by decide +kernel
theorem d_M_sendCluster_44 : decode prog_13_method_49_code 44 = .ok (.iload_n 2, 1) := by decide +kernel
theorem d_M_sendCluster_45 : decode prog_13_method_49_code 45 = .ok (.iload 5, 2) := by decide +kernel
theorem d_M_sendCluster_47 : decode prog_13_method_49_code 47 = .ok (.invokestatic 90, 3) := by decide +kernel
theorem d_M_sendCluster_50 : decode prog_13_method_49_code 50 = .ok (.invokevirtual 284, 3) := by decide +kernel
theorem d_M_sendCluster_53 : decode prog_13_method_49_code 53 = .ok (.aload_n 0, 1) := by decide +kernel
theorem d_M_sendCluster_54 : decode prog_13_method_49_code 54 = .ok (.getfield 272, 3) := by decide +kernel
theorem d_M_sendCluster_57 : decode prog_13_method_49_code 57 = .ok (.aload_n 0, 1) := by decide +kernel
theorem d_M_sendCluster_58 : decode prog_13_method_49_code 58 = .ok (.getfield 53, 3) := by decide +kernel
theorem d_M_sendCluster_61 : decode prog_13_method_49_code 61 = .ok (.iload_n 3, 1) := by decide +kernel
theorem d_M_sendCluster_62 : decode prog_13_method_49_code 62 = .ok (.iaload, 1) := by decide +kernel
theorem d_M_sendCluster_63 : decode prog_13_method_49_code 63 = .ok (.if_icmp .eq 13, 3) := by decide +kernel
theorem d_M_sendCluster_66 : decode prog_13_method_49_code 66 = .ok (.aload_n 0, 1) := by decide +kernel
theorem d_M_sendCluster_67 : decode prog_13_method_49_code 67 = .ok (.aload_n 0, 1) := by decide +kernel
theorem d_M_sendCluster_68 : decode prog_13_method_49_code 68 = .ok (.getfield 53, 3) := by decide +kernel
theorem d_M_sendCluster_71 : decode prog_13_method_49_code 71 = .ok (.iload_n 3, 1) := by decide +kernel
theorem d_M_sendCluster_72 : decode prog_13_method_49_code 72 = .ok (.iaload, 1) := by decide +kernel
theorem d_M_sendCluster_73 : decode prog_13_method_49_code 73 = .ok (.invokevirtual 288, 3) := by decide +kernel
theorem d_M_sendCluster_76 : decode prog_13_method_49_code 76 = .ok (.aload_n 0, 1) := by decide +kernel
theorem d_M_sendCluster_77 : decode prog_13_method_49_code 77 = .ok (.iload 5, 2) := by decide +kernel
theorem d_M_sendCluster_79 : decode prog_13_method_49_code 79 = .ok (.invokevirtual 291, 3) := by decide +kernel
theorem d_M_sendCluster_82 : decode prog_13_method_49_code 82 = .ok (.iload 6, 2) := by decide +kernel
theorem d_M_sendCluster_84 : decode prog_13_method_49_code 84 = .ok (.ifCond .le 13, 3) := by decide +kernel
theorem d_M_sendCluster_87 : decode prog_13_method_49_code 87 = .ok (.aload_n 0, 1) := by decide +kernel
theorem d_M_sendCluster_88 : decode prog_13_method_49_code 88 = .ok (.sipush 767, 3) := by decide +kernel
theorem d_M_sendCluster_91 : decode prog_13_method_49_code 91 = .ok (.iload 6, 2) := by decide +kernel
theorem d_M_sendCluster_93 : decode prog_13_method_49_code 93 = .ok (.iadd, 1) := by decide +kernel
theorem d_M_sendCluster_94 : decode prog_13_method_49_code 94 = .ok (.invokevirtual 291, 3) := by decide +kernel
theorem d_M_sendCluster_97 : decode prog_13_method_49_code 97 = .ok (.iload 7, 2) := by decide +kernel
theorem d_M_sendCluster_99 : decode prog_13_method_49_code 99 = .ok (.ifCond .le 13, 3) := by decide +kernel
theorem d_M_sendCluster_102 : decode prog_13_method_49_code 102 = .ok (.aload_n 0, 1) := by decide +kernel
theorem d_M_sendCluster_103 : decode prog_13_method_49_code 103 = .ok (.sipush 767, 3) := by decide +kernel
theorem d_M_sendCluster_106 : decode prog_13_method_49_code 106 = .ok (.iload 7, 2) := by decide +kernel
theorem d_M_sendCluster_108 : decode prog_13_method_49_code 108 = .ok (.iadd, 1) := by decide +kernel
theorem d_M_sendCluster_109 : decode prog_13_method_49_code 109 = .ok (.invokevirtual 291, 3) := by decide +kernel
theorem d_M_sendCluster_112 : decode prog_13_method_49_code 112 = .ok (.return_, 1) := by decide +kernel
theorem d_M_sendClusters_0 : decode prog_13_method_50_code 0 = .ok (.iload_n 2, 1) := by decide +kernel
theorem d_M_sendClusters_1 : decode prog_13_method_50_code 1 = .ok (.istore 4, 2) := by decide +kernel
theorem d_M_sendClusters_3 : decode prog_13_method_50_code 3 = .ok (.iload 4, 2) := by decide +kernel
theorem d_M_sendClusters_5 : decode prog_13_method_50_code 5 = .ok (.iload_n 3, 1) := by decide +kernel
theorem d_M_sendClusters_6 : decode prog_13_method_50_code 6 = .ok (.if_icmp .gt 47, 3) := by decide +kernel
theorem d_M_sendClusters_9 : decode prog_13_method_50_code 9 = .ok (.aload_n 0, 1) := by decide +kernel
theorem d_M_sendClusters_10 : decode prog_13_method_50_code 10 = .ok (.iload_n 1, 1) := by decide +kernel
theorem d_M_sendClusters_11 : decode prog_13_method_50_code 11 = .ok (.iload 4, 2) := by decide +kernel
theorem d_M_sendClusters_13 : decode prog_13_method_50_code 13 = .ok (.invokevirtual 294, 3) := by decide +kernel
theorem d_M_sendClusters_16 : decode prog_13_method_50_code 16 = .ok (.iload 4, 2) := by decide +kernel
theorem d_M_sendClusters_18 : decode prog_13_method_50_code 18 = .ok (.aload_n 0, 1) := by decide +kernel
theorem d_M_sendClusters_19 : decode prog_13_method_50_code 19 = .ok (.getfield 50, 3) := by decide +kernel
theorem d_M_sendClusters_22 : decode prog_13_method_50_code 22 = .ok (.aload_n 0, 1) := by decide +kernel
theorem d_M_sendClusters_23 : decode prog_13_method_50_code 23 = .ok (.getfield 78, 3) := by decide +kernel
theorem d_M_sendClusters_26 : decode prog_13_method_50_code 26 = .ok (.iload_n 1, 1) := by decide +kernel
theorem d_M_sendClusters_27 : decode prog_13_method_50_code 27 = .ok (.imul, 1) := by decide +kernel
theorem d_M_sendClusters_28 : decode prog_13_method_50_code 28 = .ok (.iload 4, 2) := by decide +kernel
theorem d_M_sendClusters_30 : decode prog_13_method_50_code 30 = .ok (.iadd, 1) := by decide +kernel
theorem d_M_sendClusters_31 : decode prog_13_method_50_code 31 = .ok (.iaload, 1) := by decide +kernel
theorem d_M_sendClusters_32 : decode prog_13_method_50_code 32 = .ok (.ldc_w 256, 3) := by decide +kernel
theorem d_M_sendClusters_35 : decode prog_13_method_50_code 35 = .ok (.iand, 1) := by decide +kernel
theorem d_M_sendClusters_36 : decode prog_13_method_50_code 36 = .ok (.invokestatic 97, 3) := by decide +kernel
theorem d_M_sendClusters_39 : decode prog_13_method_50_code 39 = .ok (.ifCond .eq 7, 3) := by decide +kernel
theorem d_M_sendClusters_42 : decode prog_13_method_50_code 42 = .ok (.iconst 2, 1) := by decide +kernel
theorem d_M_sendClusters_43 : decode prog_13_method_50_code 43 = .ok (.goto 4, 3) := by decide +kernel
theorem d_M_sendClusters_46 : decode prog_13_method_50_code 46 = .ok (.iconst 1, 1) := by decide +kernel
theorem d_M_sendClusters_47 : decode prog_13_method_50_code 47 = .ok (.iadd, 1) := by decide +kernel
theorem d_M_sendClusters_48 : decode prog_13_method_50_code 48 = .ok (.istore 4, 2) := by decide +kernel
theorem d_M_sendClusters_50 : decode prog_13_method_50_code 50 = .ok (.goto (-47), 3) := by decide +kernel
theorem d_M_sendClusters_53 : decode prog_13_method_50_code 53 = .ok (.return_, 1) := by decide +kernel
theorem d_M_differs_0 : decode prog_13_method_51_code 0 = .ok (.aload_n 0, 1) := by decide +kernel
theorem d_M_differs_1 : decode prog_13_method_51_code 1 = .ok (.getfield 50, 3) := by decide +kernel
theorem d_M_differs_4 : decode prog_13_method_51_code 4 = .ok (.iload_n 1, 1) := by decide +kernel
theorem d_M_differs_5 : decode prog_13_method_51_code 5 = .ok (.iaload, 1) := by decide +kernel
theorem d_M_differs_6 : decode prog_13_method_51_code 6 = .ok (.aload_n 0, 1) := by decide +kernel
theorem d_M_differs_7 : decode prog_13_method_51_code 7 = .ok (.getfield 56, 3) := by decide +kernel
theorem d_M_differs_10 : decode prog_13_method_51_code 10 = .ok (.iload_n 1, 1) := by decide +kernel
theorem d_M_differs_11 : decode prog_13_method_51_code 11 = .ok (.iaload, 1) := by decide +kernel
theorem d_M_differs_12 : decode prog_13_method_51_code 12 = .ok (.if_icmp .ne 18, 3) := by decide +kernel
theorem d_M_differs_15 : decode prog_13_method_51_code 15 = .ok (.aload_n 0, 1) := by decide +kernel
theorem d_M_differs_16 : decode prog_13_method_51_code 16 = .ok (.getfield 53, 3) := by decide +kernel
theorem d_M_differs_19 : decode prog_13_method_51_code 19 = .ok (.iload_n 1, 1) := by decide +kernel
theorem d_M_differs_20 : decode prog_13_method_51_code 20 = .ok (.iaload, 1) := by decide +kernel
theorem d_M_differs_21 : decode prog_13_method_51_code 21 = .ok (.aload_n 0, 1) := by decide +kernel
theorem d_M_differs_22 : decode prog_13_method_51_code 22 = .ok (.getfield 59, 3) := by decide +kernel
theorem d_M_differs_25 : decode prog_13_method_51_code 25 = .ok (.iload_n 1, 1) := by decide +kernel
theorem d_M_differs_26 : decode prog_13_method_51_code 26 = .ok (.iaload, 1) := by decide +kernel
theorem d_M_differs_27 : decode prog_13_method_51_code 27 = .ok (.if_icmp .eq 7, 3) := by decide +kernel
theorem d_M_differs_30 : decode prog_13_method_51_code 30 = .ok (.iconst 1, 1) := by decide +kernel
theorem d_M_differs_31 : decode prog_13_method_51_code 31 = .ok (.goto 4, 3) := by decide +kernel
theorem d_M_differs_34 : decode prog_13_method_51_code 34 = .ok (.iconst 0, 1) := by decide +kernel
theorem d_M_differs_35 : decode prog_13_method_51_code 35 = .ok (.ireturn, 1) := by decide +kernel
theorem d_M_drawRow_0 : decode prog_13_method_52_code 0 = .ok (.aload_n 0, 1) := by decide +kernel
theorem d_M_drawRow_1 : decode prog_13_method_52_code 1 = .ok (.getfield 78, 3) := by decide +kernel
theorem d_M_drawRow_4 : decode prog_13_method_52_code 4 = .ok (.iload_n 1, 1) := by decide +kernel
theorem d_M_drawRow_5 : decode prog_13_method_52_code 5 = .ok (.imul, 1) := by decide +kernel
theorem d_M_drawRow_6 : decode prog_13_method_52_code 6 = .ok (.istore_n 2, 1) := by decide +kernel
theorem d_M_drawRow_7 : decode prog_13_method_52_code 7 = .ok (.iconst 0, 1) := by decide +kernel
theorem d_M_drawRow_8 : decode prog_13_method_52_code 8 = .ok (.istore_n 3, 1) := by decide +kernel
theorem d_M_drawRow_9 : decode prog_13_method_52_code 9 = .ok (.iload_n 3, 1) := by decide +kernel
theorem d_M_drawRow_10 : decode prog_13_method_52_code 10 = .ok (.aload_n 0, 1) := by decide +kernel
theorem d_M_drawRow_11 : decode prog_13_method_52_code 11 = .ok (.getfield 78, 3) := by decide +kernel
theorem d_M_drawRow_14 : decode prog_13_method_52_code 14 = .ok (.if_icmp .ge 19, 3) := by decide +kernel
theorem d_M_drawRow_17 : decode prog_13_method_52_code 17 = .ok (.aload_n 0, 1) := by decide +kernel
theorem d_M_drawRow_18 : decode prog_13_method_52_code 18 = .ok (.iload_n 2, 1) := by decide +kernel
theorem d_M_drawRow_19 : decode prog_13_method_52_code 19 = .ok (.iload_n 3, 1) := by decide +kernel
theorem d_M_drawRow_20 : decode prog_13_method_52_code 20 = .ok (.iadd, 1) := by decide +kernel
theorem d_M_drawRow_21 : decode prog_13_method_52_code 21 = .ok (.invokevirtual 297, 3) := by decide +kernel
theorem d_M_drawRow_24 : decode prog_13_method_52_code 24 = .ok (.ifCond .ne 9, 3) := by decide +kernel
theorem d_M_drawRow_27 : decode prog_13_method_52_code 27 = .ok (.iinc 3 1, 3) := by decide +kernel
theorem d_M_drawRow_30 : decode prog_13_method_52_code 30 = .ok (.goto (-21), 3) := by decide +kernel
theorem d_M_drawRow_33 : decode prog_13_method_52_code 33 = .ok (.iload_n 3, 1) := by decide +kernel
theorem d_M_drawRow_34 : decode prog_13_method_52_code 34 = .ok (.aload_n 0, 1) := by decide +kernel
theorem d_M_drawRow_35 : decode prog_13_method_52_code 35 = .ok (.getfield 78, 3) := by decide +kernel
theorem d_M_drawRow_38 : decode prog_13_method_52_code 38 = .ok (.if_icmp .ne 4, 3) := by decide +kernel
theorem d_M_drawRow_41 : decode prog_13_method_52_code 41 = .ok (.return_, 1) := by decide +kernel
theorem d_M_drawRow_42 : decode prog_13_method_52_code 42 = .ok (.aload_n 0, 1) := by decide +kernel
theorem d_M_drawRow_43 : decode prog_13_method_52_code 43 = .ok (.getfield 78, 3) := by decide +kernel
theorem d_M_drawRow_46 : decode prog_13_method_52_code 46 = .ok (.iconst 1, 1) := by decide +kernel
theorem d_M_drawRow_47 : decode prog_13_method_52_code 47 = .ok (.isub, 1) := by decide +kernel
theorem d_M_drawRow_48 : decode prog_13_method_52_code 48 = .ok (.istore 4, 2) := by decide +kernel
theorem d_M_drawRow_50 : decode prog_13_method_52_code 50 = .ok (.aload_n 0, 1) := by decide +kernel
theorem d_M_drawRow_51 : decode prog_13_method_52_code 51 = .ok (.iload_n 2, 1) := by decide +kernel
theorem d_M_drawRow_52 : decode prog_13_method_52_code 52 = .ok (.iload 4, 2) := by decide +kernel
theorem d_M_drawRow_54 : decode prog_13_method_52_code 54 = .ok (.iadd, 1) := by decide +kernel
theorem d_M_drawRow_55 : decode prog_13_method_52_code 55 = .ok (.invokevirtual 297, 3) := by decide +kernel
theorem d_M_drawRow_58 : decode prog_13_method_52_code 58 = .ok (.ifCond .ne 9, 3) := by decide +kernel
theorem d_M_drawRow_61 : decode prog_13_method_52_code 61 = .ok (.iinc 4 (-1), 3) := by decide +kernel
theorem d_M_drawRow_64 : decode prog_13_method_52_code 64 = .ok (.goto (-14), 3) := by decide +kernel
theorem d_M_drawRow_67 : decode prog_13_method_52_code 67 = .ok (.aload_n 0, 1) := by decide +kernel
theorem d_M_drawRow_68 : decode prog_13_method_52_code 68 = .ok (.getfield 50, 3) := by decide +kernel
theorem d_M_drawRow_71 : decode prog_13_method_52_code 71 = .ok (.iload_n 2, 1) := by decide +kernel
theorem d_M_drawRow_72 : decode prog_13_method_52_code 72 = .ok (.iload_n 3, 1) := by decide +kernel
theorem d_M_drawRow_73 : decode prog_13_method_52_code 73 = .ok (.iadd, 1) := by decide +kernel
theorem d_M_drawRow_74 : decode prog_13_method_52_code 74 = .ok (.iaload, 1) := by decide +kernel
theorem d_M_drawRow_75 : decode prog_13_method_52_code 75 = .ok (.ifCond .ne 6, 3) := by decide +kernel
theorem d_M_drawRow_78 : decode prog_13_method_52_code 78 = .ok (.iinc 3 (-1), 3) := by decide +kernel
theorem d_M_drawRow_81 : decode prog_13_method_52_code 81 = .ok (.aload_n 0, 1) := by decide +kernel
theorem d_M_drawRow_82 : decode prog_13_method_52_code 82 = .ok (.getfield 78, 3) := by decide +kernel
theorem d_M_drawRow_85 : decode prog_13_method_52_code 85 = .ok (.istore 5, 2) := by decide +kernel
theorem d_M_drawRow_87 : decode prog_13_method_52_code 87 = .ok (.iload 5, 2) := by decide +kernel
theorem d_M_drawRow_89 : decode prog_13_method_52_code 89 = .ok (.ifCond .le 39, 3) := by decide +kernel
theorem d_M_drawRow_92 : decode prog_13_method_52_code 92 = .ok (.aload_n 0, 1) := by decide +kernel
theorem d_M_drawRow_93 : decode prog_13_method_52_code 93 = .ok (.getfield 50, 3) := by decide +kernel
theorem d_M_drawRow_96 : decode prog_13_method_52_code 96 = .ok (.iload_n 2, 1) := by decide +kernel
theorem d_M_drawRow_97 : decode prog_13_method_52_code 97 = .ok (.iload 5, 2) := by decide +kernel
theorem d_M_drawRow_99 : decode prog_13_method_52_code 99 = .ok (.iadd, 1) := by decide +kernel
theorem d_M_drawRow_100 : decode prog_13_method_52_code 100 = .ok (.iconst 1, 1) := by decide +kernel
theorem d_M_drawRow_101 : decode prog_13_method_52_code 101 = .ok (.isub, 1) := by decide +kernel
theorem d_M_drawRow_102 : decode prog_13_method_52_code 102 = .ok (.iaload, 1) := by decide +kernel
theorem d_M_drawRow_103 : decode prog_13_method_52_code 103 = .ok (.bipush 32, 2) := by decide +kernel
theorem d_M_drawRow_105 : decode prog_13_method_52_code 105 = .ok (.if_icmp .ne 23, 3) := by decide +kernel
theorem d_M_drawRow_108 : decode prog_13_method_52_code 108 = .ok (.aload_n 0, 1) := by decide +kernel
theorem d_M_drawRow_109 : decode prog_13_method_52_code 109 = .ok (.getfield 53, 3) := by decide +kernel
theorem d_M_drawRow_112 : decode prog_13_method_52_code 112 = .ok (.iload_n 2, 1) := by decide +kernel
theorem d_M_drawRow_113 : decode prog_13_method_52_code 113 = .ok (.iload 5, 2) := by decide +kernel
theorem d_M_drawRow_115 : decode prog_13_method_52_code 115 = .ok (.iadd, 1) := by decide +kernel
theorem d_M_drawRow_116 : decode prog_13_method_52_code 116 = .ok (.iconst 1, 1) := by decide +kernel
theorem d_M_drawRow_117 : decode prog_13_method_52_code 117 = .ok (.isub, 1) := by decide +kernel
theorem d_M_drawRow_118 : decode prog_13_method_52_code 118 = .ok (.iaload, 1) := by decide +kernel
theorem d_M_drawRow_119 : decode prog_13_method_52_code 119 = .ok (.ifCond .ne 9, 3) := by decide +kernel
theorem d_M_drawRow_122 : decode prog_13_method_52_code 122 = .ok (.iinc 5 (-1), 3) := by decide +kernel
theorem d_M_drawRow_125 : decode prog_13_method_52_code 125 = .ok (.goto (-38), 3) := by decide +kernel
theorem d_M_drawRow_128 : decode prog_13_method_52_code 128 = .ok (.iload_n 3, 1) := by decide +kernel
theorem d_M_drawRow_129 : decode prog_13_method_52_code 129 = .ok (.iload 5, 2) := by decide +kernel
theorem d_M_drawRow_131 : decode prog_13_method_52_code 131 = .ok (.if_icmp .le 7, 3) := by decide +kernel
theorem d_M_drawRow_134 : decode prog_13_method_52_code 134 = .ok (.iload_n 3, 1) := by decide +kernel
theorem d_M_drawRow_135 : decode prog_13_method_52_code 135 = .ok (.goto 5, 3) := by decide +kernel
theorem d_M_drawRow_138 : decode prog_13_method_52_code 138 = .ok (.iload 5, 2) := by decide +kernel
theorem d_M_drawRow_140 : decode prog_13_method_52_code 140 = .ok (.istore 6, 2) := by decide +kernel
theorem d_M_drawRow_142 : decode prog_13_method_52_code 142 = .ok (.iload 4, 2) := by decide +kernel
theorem d_M_drawRow_144 : decode prog_13_method_52_code 144 = .ok (.iload 6, 2) := by decide +kernel
theorem d_M_drawRow_146 : decode prog_13_method_52_code 146 = .ok (.isub, 1) := by decide +kernel
theorem d_M_drawRow_147 : decode prog_13_method_52_code 147 = .ok (.iconst 1, 1) := by decide +kernel
theorem d_M_drawRow_148 : decode prog_13_method_52_code 148 = .ok (.iadd, 1) := by decide +kernel
theorem d_M_drawRow_149 : decode prog_13_method_52_code 149 = .ok (.iconst 3, 1) := by decide +kernel
theorem d_M_drawRow_150 : decode prog_13_method_52_code 150 = .ok (.if_icmp .gt 12, 3) := by decide +kernel
theorem d_M_drawRow_153 : decode prog_13_method_52_code 153 = .ok (.aload_n 0, 1) := by decide +kernel
theorem d_M_drawRow_154 : decode prog_13_method_52_code 154 = .ok (.iload_n 1, 1) := by decide +kernel
theorem d_M_drawRow_155 : decode prog_13_method_52_code 155 = .ok (.iload_n 3, 1) := by decide +kernel
theorem d_M_drawRow_156 : decode prog_13_method_52_code 156 = .ok (.iload 4, 2) := by decide +kernel
theorem d_M_drawRow_158 : decode prog_13_method_52_code 158 = .ok (.invokevirtual 300, 3) := by decide +kernel
theorem d_M_drawRow_161 : decode prog_13_method_52_code 161 = .ok (.return_, 1) := by decide +kernel
theorem d_M_drawRow_162 : decode prog_13_method_52_code 162 = .ok (.aload_n 0, 1) := by decide +kernel
theorem d_M_drawRow_163 : decode prog_13_method_52_code 163 = .ok (.iload_n 1, 1) := by decide +kernel
theorem d_M_drawRow_164 : decode prog_13_method_52_code 164 = .ok (.iload_n 3, 1) := by decide +kernel
theorem d_M_drawRow_165 : decode prog_13_method_52_code 165 = .ok (.iload 5, 2) := by decide +kernel
theorem d_M_drawRow_167 : decode prog_13_method_52_code 167 = .ok (.iconst 1, 1) := by decide +kernel
theorem d_M_drawRow_168 : decode prog_13_method_52_code 168 = .ok (.isub, 1) := by decide +kernel
theorem d_M_drawRow_169 : decode prog_13_method_52_code 169 = .ok (.invokevirtual 300, 3) := by decide +kernel
theorem d_M_drawRow_172 : decode prog_13_method_52_code 172 = .ok (.aload_n 0, 1) := by decide +kernel
theorem d_M_drawRow_173 : decode prog_13_method_52_code 173 = .ok (.iload_n 1, 1) := by decide +kernel
theorem d_M_drawRow_174 : decode prog_13_method_52_code 174 = .ok (.iload 6, 2) := by decide +kernel
theorem d_M_drawRow_176 : decode prog_13_method_52_code 176 = .ok (.iconst 0, 1) := by decide +kernel
theorem d_M_drawRow_177 : decode prog_13_method_52_code 177 = .ok (.invokevirtual 284, 3) := by decide +kernel
theorem d_M_drawRow_180 : decode prog_13_method_52_code 180 = .ok (.aload_n 0, 1) := by decide +kernel
theorem d_M_drawRow_181 : decode prog_13_method_52_code 181 = .ok (.invokevirtual 275, 3) := by decide +kernel
theorem d_M_drawRow_184 : decode prog_13_method_52_code 184 = .ok (.aload_n 0, 1) := by decide +kernel
theorem d_M_drawRow_185 : decode prog_13_method_52_code 185 = .ok (.bipush 75, 2) := by decide +kernel
theorem d_M_drawRow_187 : decode prog_13_method_52_code 187 = .ok (.invokevirtual 253, 3) := by decide +kernel
theorem d_M_drawRow_190 : decode prog_13_method_52_code 190 = .ok (.iload 6, 2) := by decide +kernel
theorem d_M_drawRow_192 : decode prog_13_method_52_code 192 = .ok (.istore 7, 2) := by decide +kernel
theorem d_M_drawRow_194 : decode prog_13_method_52_code 194 = .ok (.iload 7, 2) := by decide +kernel
theorem d_M_drawRow_196 : decode prog_13_method_52_code 196 = .ok (.aload_n 0, 1) := by decide +kernel
theorem d_M_drawRow_197 : decode prog_13_method_52_code 197 = .ok (.getfield 78, 3) := by decide +kernel
theorem d_M_drawRow_200 : decode prog_13_method_52_code 200 = .ok (.if_icmp .ge 30, 3) := by decide +kernel
theorem d_M_drawRow_203 : decode prog_13_method_52_code 203 = .ok (.aload_n 0, 1) := by decide +kernel
theorem d_M_drawRow_204 : decode prog_13_method_52_code 204 = .ok (.getfield 56, 3) := by decide +kernel
theorem d_M_drawRow_207 : decode prog_13_method_52_code 207 = .ok (.iload_n 2, 1) := by decide +kernel
theorem d_M_drawRow_208 : decode prog_13_method_52_code 208 = .ok (.iload 7, 2) := by decide +kernel
theorem d_M_drawRow_210 : decode prog_13_method_52_code 210 = .ok (.iadd, 1) := by decide +kernel
theorem d_M_drawRow_211 : decode prog_13_method_52_code 211 = .ok (.bipush 32, 2) := by decide +kernel
theorem d_M_drawRow_213 : decode prog_13_method_52_code 213 = .ok (.iastore, 1) := by decide +kernel
theorem d_M_drawRow_214 : decode prog_13_method_52_code 214 = .ok (.aload_n 0, 1) := by decide +kernel
theorem d_M_drawRow_215 : decode prog_13_method_52_code 215 = .ok (.getfield 59, 3) := by decide +kernel
theorem d_M_drawRow_218 : decode prog_13_method_52_code 218 = .ok (.iload_n 2, 1) := by decide +kernel
theorem d_M_drawRow_219 : decode prog_13_method_52_code 219 = .ok (.iload 7, 2) := by decide +kernel
theorem d_M_drawRow_221 : decode prog_13_method_52_code 221 = .ok (.iadd, 1) := by decide +kernel
theorem d_M_drawRow_222 : decode prog_13_method_52_code 222 = .ok (.iconst 0, 1) := by decide +kernel
theorem d_M_drawRow_223 : decode prog_13_method_52_code 223 = .ok (.iastore, 1) := by decide +kernel
theorem d_M_drawRow_224 : decode prog_13_method_52_code 224 = .ok (.iinc 7 1, 3) := by decide +kernel
theorem d_M_drawRow_227 : decode prog_13_method_52_code 227 = .ok (.goto (-33), 3) := by decide +kernel
theorem d_M_drawRow_230 : decode prog_13_method_52_code 230 = .ok (.aload_n 0, 1) := by decide +kernel
theorem d_M_drawRow_231 : decode prog_13_method_52_code 231 = .ok (.iconst 0, 1) := by decide +kernel
theorem d_M_drawRow_232 : decode prog_13_method_52_code 232 = .ok (.putfield 260, 3) := by decide +kernel
theorem d_M_drawRow_235 : decode prog_13_method_52_code 235 = .ok (.aload_n 0, 1) := by decide +kernel
theorem d_M_drawRow_236 : decode prog_13_method_52_code 236 = .ok (.iconst (-1), 1) := by decide +kernel
theorem d_M_drawRow_237 : decode prog_13_method_52_code 237 = .ok (.putfield 68, 3) := by decide +kernel
theorem d_M_drawRow_240 : decode prog_13_method_52_code 240 = .ok (.return_, 1) := by decide +kernel
theorem d_M_draw_0 : decode prog_13_method_53_code 0 = .ok (.aload_n 0, 1) := by decide +kernel
theorem d_M_draw_1 : decode prog_13_method_53_code 1 = .ok (.iconst 0, 1) := by decide +kernel
theorem d_M_draw_2 : decode prog_13_method_53_code 2 = .ok (.putfield 250, 3) := by decide +kernel
theorem d_M_draw_5 : decode prog_13_method_53_code 5 = .ok (.aload_n 0, 1) := by decide +kernel
theorem d_M_draw_6 : decode prog_13_method_53_code 6 = .ok (.invokevirtual 303, 3) := by decide +kernel
theorem d_M_draw_9 : decode prog_13_method_53_code 9 = .ok (.aload_n 0, 1) := by decide +kernel
theorem d_M_draw_10 : decode prog_13_method_53_code 10 = .ok (.getfield 71, 3) := by decide +kernel
theorem d_M_draw_13 : decode prog_13_method_53_code 13 = .ok (.ifCond .eq 69, 3) := by decide +kernel
theorem d_M_draw_16 : decode prog_13_method_53_code 16 = .ok (.aload_n 0, 1) := by decide +kernel
theorem d_M_draw_17 : decode prog_13_method_53_code 17 = .ok (.iconst 0, 1) := by decide +kernel
theorem d_M_draw_18 : decode prog_13_method_53_code 18 = .ok (.invokevirtual 288, 3) := by decide +kernel
theorem d_M_draw_21 : decode prog_13_method_53_code 21 = .ok (.aload_n 0, 1) := by decide +kernel
theorem d_M_draw_22 : decode prog_13_method_53_code 22 = .ok (.invokevirtual 275, 3) := by decide +kernel
theorem d_M_draw_25 : decode prog_13_method_53_code 25 = .ok (.aload_n 0, 1) := by decide +kernel
theorem d_M_draw_26 : decode prog_13_method_53_code 26 = .ok (.bipush 50, 2) := by decide +kernel
theorem d_M_draw_28 : decode prog_13_method_53_code 28 = .ok (.invokevirtual 253, 3) := by decide +kernel
theorem d_M_draw_31 : decode prog_13_method_53_code 31 = .ok (.aload_n 0, 1) := by decide +kernel
theorem d_M_draw_32 : decode prog_13_method_53_code 32 = .ok (.bipush 74, 2) := by decide +kernel
theorem d_M_draw_34 : decode prog_13_method_53_code 34 = .ok (.invokevirtual 253, 3) := by decide +kernel
theorem d_M_draw_37 : decode prog_13_method_53_code 37 = .ok (.iconst 0, 1) := by decide +kernel
theorem d_M_draw_38 : decode prog_13_method_53_code 38 = .ok (.istore_n 1, 1) := by decide +kernel
theorem d_M_draw_39 : decode prog_13_method_53_code 39 = .ok (.iload_n 1, 1) := by decide +kernel
theorem d_M_draw_40 : decode prog_13_method_53_code 40 = .ok (.sipush 192, 3) := by decide +kernel
theorem d_M_draw_43 : decode prog_13_method_53_code 43 = .ok (.if_icmp .ge 24, 3) := by decide +kernel
theorem d_M_draw_46 : decode prog_13_method_53_code 46 = .ok (.aload_n 0, 1) := by decide +kernel
theorem d_M_draw_47 : decode prog_13_method_53_code 47 = .ok (.getfield 56, 3) := by decide +kernel
theorem d_M_draw_50 : decode prog_13_method_53_code 50 = .ok (.iload_n 1, 1) := by decide +kernel
theorem d_M_draw_51 : decode prog_13_method_53_code 51 = .ok (.bipush 32, 2) := by decide +kernel
theorem d_M_draw_53 : decode prog_13_method_53_code 53 = .ok (.iastore, 1) := by decide +kernel
theorem d_M_draw_54 : decode prog_13_method_53_code 54 = .ok (.aload_n 0, 1) := by decide +kernel
theorem d_M_draw_55 : decode prog_13_method_53_code 55 = .ok (.getfield 59, 3) := by decide +kernel
theorem d_M_draw_58 : decode prog_13_method_53_code 58 = .ok (.iload_n 1, 1) := by decide +kernel
theorem d_M_draw_59 : decode prog_13_method_53_code 59 = .ok (.iconst 0, 1) := by decide +kernel
theorem d_M_draw_60 : decode prog_13_method_53_code 60 = .ok (.iastore, 1) := by decide +kernel
theorem d_M_draw_61 : decode prog_13_method_53_code 61 = .ok (.iinc 1 1, 3) := by decide +kernel
theorem d_M_draw_64 : decode prog_13_method_53_code 64 = .ok (.goto (-25), 3) := by decide +kernel
theorem d_M_draw_67 : decode prog_13_method_53_code 67 = .ok (.aload_n 0, 1) := by decide +kernel
theorem d_M_draw_68 : decode prog_13_method_53_code 68 = .ok (.iconst 0, 1) := by decide +kernel
theorem d_M_draw_69 : decode prog_13_method_53_code 69 = .ok (.putfield 260, 3) := by decide +kernel
theorem d_M_draw_72 : decode prog_13_method_53_code 72 = .ok (.aload_n 0, 1) := by decide +kernel
theorem d_M_draw_73 : decode prog_13_method_53_code 73 = .ok (.iconst (-1), 1) := by decide +kernel
theorem d_M_draw_74 : decode prog_13_method_53_code 74 = .ok (.putfield 68, 3) := by decide +kernel
theorem d_M_draw_77 : decode prog_13_method_53_code 77 = .ok (.aload_n 0, 1) := by decide +kernel
theorem d_M_draw_78 : decode prog_13_method_53_code 78 = .ok (.iconst 0, 1) := by decide +kernel
theorem d_M_draw_79 : decode prog_13_method_53_code 79 = .ok (.putfield 71, 3) := by decide +kernel
theorem d_M_draw_82 : decode prog_13_method_53_code 82 = .ok (.iconst 0, 1) := by decide +kernel
theorem d_M_draw_83 : decode prog_13_method_53_code 83 = .ok (.istore_n 1, 1) := by decide +kernel
theorem d_M_draw_84 : decode prog_13_method_53_code 84 = .ok (.iload_n 1, 1) := by decide +kernel
theorem d_M_draw_85 : decode prog_13_method_53_code 85 = .ok (.aload_n 0, 1) := by decide +kernel
theorem d_M_draw_86 : decode prog_13_method_53_code 86 = .ok (.getfield 81, 3) := by decide +kernel
theorem d_M_draw_89 : decode prog_13_method_53_code 89 = .ok (.if_icmp .ge 14, 3) := by decide +kernel
theorem d_M_draw_92 : decode prog_13_method_53_code 92 = .ok (.aload_n 0, 1) := by decide +kernel
theorem d_M_draw_93 : decode prog_13_method_53_code 93 = .ok (.iload_n 1, 1) := by decide +kernel
theorem d_M_draw_94 : decode prog_13_method_53_code 94 = .ok (.invokevirtual 306, 3) := by decide +kernel
theorem d_M_draw_97 : decode prog_13_method_53_code 97 = .ok (.iinc 1 1, 3) := by decide +kernel
theorem d_M_draw_100 : decode prog_13_method_53_code 100 = .ok (.goto (-16), 3) := by decide +kernel
theorem d_M_draw_103 : decode prog_13_method_53_code 103 = .ok (.aload_n 0, 1) := by decide +kernel
theorem d_M_draw_104 : decode prog_13_method_53_code 104 = .ok (.aload_n 0, 1) := by decide +kernel
theorem d_M_draw_105 : decode prog_13_method_53_code 105 = .ok (.getfield 234, 3) := by decide +kernel
theorem d_M_draw_108 : decode prog_13_method_53_code 108 = .ok (.aload_n 0, 1) := by decide +kernel
theorem d_M_draw_109 : decode prog_13_method_53_code 109 = .ok (.getfield 237, 3) := by decide +kernel
theorem d_M_draw_112 : decode prog_13_method_53_code 112 = .ok (.iconst 0, 1) := by decide +kernel
theorem d_M_draw_113 : decode prog_13_method_53_code 113 = .ok (.invokevirtual 284, 3) := by decide +kernel
theorem d_M_draw_116 : decode prog_13_method_53_code 116 = .ok (.aload_n 0, 1) := by decide +kernel
theorem d_M_draw_117 : decode prog_13_method_53_code 117 = .ok (.getfield 250, 3) := by decide +kernel
theorem d_M_draw_120 : decode prog_13_method_53_code 120 = .ok (.ireturn, 1) := by decide +kernel
theorem d_M_size_0 : decode prog_13_method_54_code 0 = .ok (.iload_n 1, 1) := by decide +kernel
theorem d_M_size_1 : decode prog_13_method_54_code 1 = .ok (.iconst 1, 1) := by decide +kernel
theorem d_M_size_2 : decode prog_13_method_54_code 2 = .ok (.if_icmp .lt 20, 3) := by decide +kernel
theorem d_M_size_5 : decode prog_13_method_54_code 5 = .ok (.iload_n 1, 1) := by decide +kernel
theorem d_M_size_6 : decode prog_13_method_54_code 6 = .ok (.bipush 24, 2) := by decide +kernel
theorem d_M_size_8 : decode prog_13_method_54_code 8 = .ok (.if_icmp .gt 14, 3) := by decide +kernel
theorem d_M_size_11 : decode prog_13_method_54_code 11 = .ok (.iload_n 2, 1) := by decide +kernel
theorem d_M_size_12 : decode prog_13_method_54_code 12 = .ok (.iconst 1, 1) := by decide +kernel
theorem d_M_size_13 : decode prog_13_method_54_code 13 = .ok (.if_icmp .lt 9, 3) := by decide +kernel
theorem d_M_size_16 : decode prog_13_method_54_code 16 = .ok (.iload_n 2, 1) := by decide +kernel
theorem d_M_size_17 : decode prog_13_method_54_code 17 = .ok (.bipush 8, 2) := by decide +kernel
theorem d_M_size_19 : decode prog_13_method_54_code 19 = .ok (.if_icmp .le 5, 3) := by decide +kernel
theorem d_M_size_22 : decode prog_13_method_54_code 22 = .ok (.iconst 0, 1) := by decide +kernel
theorem d_M_size_23 : decode prog_13_method_54_code 23 = .ok (.ireturn, 1) := by decide +kernel
theorem d_M_size_24 : decode prog_13_method_54_code 24 = .ok (.iconst 0, 1) := by decide +kernel
theorem d_M_size_25 : decode prog_13_method_54_code 25 = .ok (.istore_n 3, 1) := by decide +kernel
theorem d_M_size_26 : decode prog_13_method_54_code 26 = .ok (.iload_n 3, 1) := by decide +kernel
theorem d_M_size_27 : decode prog_13_method_54_code 27 = .ok (.sipush 192, 3) := by decide +kernel
theorem d_M_size_30 : decode prog_13_method_54_code 30 = .ok (.if_icmp .ge 33, 3) := by decide +kernel
theorem d_M_size_33 : decode prog_13_method_54_code 33 = .ok (.aload_n 0, 1) := by decide +kernel
theorem d_M_size_34 : decode prog_13_method_54_code 34 = .ok (.getfield 62, 3) := by decide +kernel
theorem d_M_size_37 : decode prog_13_method_54_code 37 = .ok (.iload_n 3, 1) := by decide +kernel
theorem d_M_size_38 : decode prog_13_method_54_code 38 = .ok (.aload_n 0, 1) := by decide +kernel
theorem d_M_size_39 : decode prog_13_method_54_code 39 = .ok (.getfield 56, 3) := by decide +kernel
theorem d_M_size_42 : decode prog_13_method_54_code 42 = .ok (.iload_n 3, 1) := by decide +kernel
theorem d_M_size_43 : decode prog_13_method_54_code 43 = .ok (.iaload, 1) := by decide +kernel
theorem d_M_size_44 : decode prog_13_method_54_code 44 = .ok (.iastore, 1) := by decide +kernel
theorem d_M_size_45 : decode prog_13_method_54_code 45 = .ok (.aload_n 0, 1) := by decide +kernel
theorem d_M_size_46 : decode prog_13_method_54_code 46 = .ok (.getfield 65, 3) := by decide +kernel
theorem d_M_size_49 : decode prog_13_method_54_code 49 = .ok (.iload_n 3, 1) := by decide +kernel
theorem d_M_size_50 : decode prog_13_method_54_code 50 = .ok (.aload_n 0, 1) := by decide +kernel
theorem d_M_size_51 : decode prog_13_method_54_code 51 = .ok (.getfield 59, 3) := by decide +kernel
theorem d_M_size_54 : decode prog_13_method_54_code 54 = .ok (.iload_n 3, 1) := by decide +kernel
theorem d_M_size_55 : decode prog_13_method_54_code 55 = .ok (.iaload, 1) := by decide +kernel
theorem d_M_size_56 : decode prog_13_method_54_code 56 = .ok (.iastore, 1) := by decide +kernel
theorem d_M_size_57 : decode prog_13_method_54_code 57 = .ok (.iinc 3 1, 3) := by decide +kernel
theorem d_M_size_60 : decode prog_13_method_54_code 60 = .ok (.goto (-34), 3) := by decide +kernel
theorem d_M_size_63 : decode prog_13_method_54_code 63 = .ok (.iconst 0, 1) := by decide +kernel
theorem d_M_size_64 : decode prog_13_method_54_code 64 = .ok (.istore_n 3, 1) := by decide +kernel
theorem d_M_size_65 : decode prog_13_method_54_code 65 = .ok (.iload_n 3, 1) := by decide +kernel
theorem d_M_size_66 : decode prog_13_method_54_code 66 = .ok (.iload_n 2, 1) := by decide +kernel
theorem d_M_size_67 : decode prog_13_method_54_code 67 = .ok (.if_icmp .ge 170, 3) := by decide +kernel
theorem d_M_size_70 : decode prog_13_method_54_code 70 = .ok (.iconst 0, 1) := by decide +kernel
theorem d_M_size_71 : decode prog_13_method_54_code 71 = .ok (.istore 4, 2) := by decide +kernel
theorem d_M_size_73 : decode prog_13_method_54_code 73 = .ok (.iload 4, 2) := by decide +kernel
theorem d_M_size_75 : decode prog_13_method_54_code 75 = .ok (.iload_n 1, 1) := by decide +kernel
theorem d_M_size_76 : decode prog_13_method_54_code 76 = .ok (.if_icmp .ge 155, 3) := by decide +kernel
theorem d_M_size_79 : decode prog_13_method_54_code 79 = .ok (.iload_n 1, 1) := by decide +kernel
theorem d_M_size_80 : decode prog_13_method_54_code 80 = .ok (.iload_n 3, 1) := by decide +kernel
theorem d_M_size_81 : decode prog_13_method_54_code 81 = .ok (.imul, 1) := by decide +kernel
theorem d_M_size_82 : decode prog_13_method_54_code 82 = .ok (.iload 4, 2) := by decide +kernel
theorem d_M_size_84 : decode prog_13_method_54_code 84 = .ok (.iadd, 1) := by decide +kernel
theorem d_M_size_85 : decode prog_13_method_54_code 85 = .ok (.istore 5, 2) := by decide +kernel
theorem d_M_size_87 : decode prog_13_method_54_code 87 = .ok (.iload_n 3, 1) := by decide +kernel
theorem d_M_size_88 : decode prog_13_method_54_code 88 = .ok (.aload_n 0, 1) := by decide +kernel
theorem d_M_size_89 : decode prog_13_method_54_code 89 = .ok (.getfield 81, 3) := by decide +kernel
theorem d_M_size_92 : decode prog_13_method_54_code 92 = .ok (.if_icmp .ge 16, 3) := by decide +kernel
theorem d_M_size_95 : decode prog_13_method_54_code 95 = .ok (.iload 4, 2) := by decide +kernel
theorem d_M_size_97 : decode prog_13_method_54_code 97 = .ok (.aload_n 0, 1) := by decide +kernel
theorem d_M_size_98 : decode prog_13_method_54_code 98 = .ok (.getfield 78, 3) := by decide +kernel
theorem d_M_size_101 : decode prog_13_method_54_code 101 = .ok (.if_icmp .ge 7, 3) := by decide +kernel
theorem d_M_size_104 : decode prog_13_method_54_code 104 = .ok (.iconst 1, 1) := by decide +kernel
theorem d_M_size_105 : decode prog_13_method_54_code 105 = .ok (.goto 4, 3) := by decide +kernel
theorem d_M_size_108 : decode prog_13_method_54_code 108 = .ok (.iconst 0, 1) := by decide +kernel
theorem d_M_size_109 : decode prog_13_method_54_code 109 = .ok (.istore 6, 2) := by decide +kernel
theorem d_M_size_111 : decode prog_13_method_54_code 111 = .ok (.iload 6, 2) := by decide +kernel
theorem d_M_size_113 : decode prog_13_method_54_code 113 = .ok (.ifCond .eq 15, 3) := by decide +kernel
theorem d_M_size_116 : decode prog_13_method_54_code 116 = .ok (.aload_n 0, 1) := by decide +kernel
theorem d_M_size_117 : decode prog_13_method_54_code 117 = .ok (.getfield 78, 3) := by decide +kernel
theorem d_M_size_120 : decode prog_13_method_54_code 120 = .ok (.iload_n 3, 1) := by decide +kernel
theorem d_M_size_121 : decode prog_13_method_54_code 121 = .ok (.imul, 1) := by decide +kernel
theorem d_M_size_122 : decode prog_13_method_54_code 122 = .ok (.iload 4, 2) := by decide +kernel
theorem d_M_size_124 : decode prog_13_method_54_code 124 = .ok (.iadd, 1) := by decide +kernel
theorem d_M_size_125 : decode prog_13_method_54_code 125 = .ok (.goto 4, 3) := by decide +kernel
theorem d_M_size_128 : decode prog_13_method_54_code 128 = .ok (.iconst 0, 1) := by decide +kernel
theorem d_M_size_129 : decode prog_13_method_54_code 129 = .ok (.istore 7, 2) := by decide +kernel
theorem d_M_size_131 : decode prog_13_method_54_code 131 = .ok (.iload 6, 2) := by decide +kernel
theorem d_M_size_133 : decode prog_13_method_54_code 133 = .ok (.ifCond .eq 32, 3) := by decide +kernel
theorem d_M_size_136 : decode prog_13_method_54_code 136 = .ok (.iload 4, 2) := by decide +kernel
theorem d_M_size_138 : decode prog_13_method_54_code 138 = .ok (.iload_n 1, 1) := by decide +kernel
theorem d_M_size_139 : decode prog_13_method_54_code 139 = .ok (.iconst 1, 1) := by decide +kernel
theorem d_M_size_140 : decode prog_13_method_54_code 140 = .ok (.isub, 1) := by decide +kernel
theorem d_M_size_141 : decode prog_13_method_54_code 141 = .ok (.if_icmp .ne 24, 3) := by decide +kernel
theorem d_M_size_144 : decode prog_13_method_54_code 144 = .ok (.aload_n 0, 1) := by decide +kernel
theorem d_M_size_145 : decode prog_13_method_54_code 145 = .ok (.getfield 62, 3) := by decide +kernel
theorem d_M_size_148 : decode prog_13_method_54_code 148 = .ok (.iload 7, 2) := by decide +kernel
theorem d_M_size_150 : decode prog_13_method_54_code 150 = .ok (.iaload, 1) := by decide +kernel
theorem d_M_size_151 : decode prog_13_method_54_code 151 = .ok (.ldc_w 256, 3) := by decide +kernel
theorem d_M_size_154 : decode prog_13_method_54_code 154 = .ok (.iand, 1) := by decide +kernel
theorem d_M_size_155 : decode prog_13_method_54_code 155 = .ok (.invokestatic 97, 3) := by decide +kernel
theorem d_M_size_158 : decode prog_13_method_54_code 158 = .ok (.ifCond .eq 7, 3) := by decide +kernel
theorem d_M_size_161 : decode prog_13_method_54_code 161 = .ok (.iconst 1, 1) := by decide +kernel
theorem d_M_size_162 : decode prog_13_method_54_code 162 = .ok (.goto 4, 3) := by decide +kernel
theorem d_M_size_165 : decode prog_13_method_54_code 165 = .ok (.iconst 0, 1) := by decide +kernel
theorem d_M_size_166 : decode prog_13_method_54_code 166 = .ok (.istore 8, 2) := by decide +kernel
theorem d_M_size_168 : decode prog_13_method_54_code 168 = .ok (.aload_n 0, 1) := by decide +kernel
theorem d_M_size_169 : decode prog_13_method_54_code 169 = .ok (.getfield 56, 3) := by decide +kernel
theorem d_M_size_172 : decode prog_13_method_54_code 172 = .ok (.iload 5, 2) := by decide +kernel
theorem d_M_size_174 : decode prog_13_method_54_code 174 = .ok (.iload 6, 2) := by decide +kernel
theorem d_M_size_176 : decode prog_13_method_54_code 176 = .ok (.ifCond .eq 18, 3) := by decide +kernel
theorem d_M_size_179 : decode prog_13_method_54_code 179 = .ok (.iload 8, 2) := by decide +kernel
theorem d_M_size_181 : decode prog_13_method_54_code 181 = .ok (.ifCond .ne 13, 3) := by decide +kernel
theorem d_M_size_184 : decode prog_13_method_54_code 184 = .ok (.aload_n 0, 1) := by decide +kernel
theorem d_M_size_185 : decode prog_13_method_54_code 185 = .ok (.getfield 62, 3) := by decide +kernel
theorem d_M_size_188 : decode prog_13_method_54_code 188 = .ok (.iload 7, 2) := by decide +kernel
theorem d_M_size_190 : decode prog_13_method_54_code 190 = .ok (.iaload, 1) := by decide +kernel
theorem d_M_size_191 : decode prog_13_method_54_code 191 = .ok (.goto 5, 3) := by decide +kernel
theorem d_M_size_194 : decode prog_13_method_54_code 194 = .ok (.bipush 32, 2) := by decide +kernel
theorem d_M_size_196 : decode prog_13_method_54_code 196 = .ok (.iastore, 1) := by decide +kernel
theorem d_M_size_197 : decode prog_13_method_54_code 197 = .ok (.aload_n 0, 1) := by decide +kernel
theorem d_M_size_198 : decode prog_13_method_54_code 198 = .ok (.getfield 59, 3) := by decide +kernel
theorem d_M_size_201 : decode prog_13_method_54_code 201 = .ok (.iload 5, 2) := by decide +kernel
theorem d_M_size_203 : decode prog_13_method_54_code 203 = .ok (.iload 6, 2) := by decide +kernel
theorem d_M_size_205 : decode prog_13_method_54_code 205 = .ok (.ifCond .eq 18, 3) := by decide +kernel
theorem d_M_size_208 : decode prog_13_method_54_code 208 = .ok (.iload 8, 2) := by decide +kernel
theorem d_M_size_210 : decode prog_13_method_54_code 210 = .ok (.ifCond .ne 13, 3) := by decide +kernel
theorem d_M_size_213 : decode prog_13_method_54_code 213 = .ok (.aload_n 0, 1) := by decide +kernel
theorem d_M_size_214 : decode prog_13_method_54_code 214 = .ok (.getfield 65, 3) := by decide +kernel
theorem d_M_size_217 : decode prog_13_method_54_code 217 = .ok (.iload 7, 2) := by decide +kernel
theorem d_M_size_219 : decode prog_13_method_54_code 219 = .ok (.iaload, 1) := by decide +kernel
theorem d_M_size_220 : decode prog_13_method_54_code 220 = .ok (.goto 4, 3) := by decide +kernel
theorem d_M_size_223 : decode prog_13_method_54_code 223 = .ok (.iconst 0, 1) := by decide +kernel
theorem d_M_size_224 : decode prog_13_method_54_code 224 = .ok (.iastore, 1) := by decide +kernel
theorem d_M_size_225 : decode prog_13_method_54_code 225 = .ok (.iinc 4 1, 3) := by decide +kernel
theorem d_M_size_228 : decode prog_13_method_54_code 228 = .ok (.goto (-155), 3) := by decide +kernel
theorem d_M_size_231 : decode prog_13_method_54_code 231 = .ok (.iinc 3 1, 3) := by decide +kernel
theorem d_M_size_234 : decode prog_13_method_54_code 234 = .ok (.goto (-169), 3) := by decide +kernel
theorem d_M_size_237 : decode prog_13_method_54_code 237 = .ok (.aload_n 0, 1) := by decide +kernel
theorem d_M_size_238 : decode prog_13_method_54_code 238 = .ok (.iload_n 1, 1) := by decide +kernel
theorem d_M_size_239 : decode prog_13_method_54_code 239 = .ok (.putfield 78, 3) := by decide +kernel
theorem d_M_size_242 : decode prog_13_method_54_code 242 = .ok (.aload_n 0, 1) := by decide +kernel
theorem d_M_size_243 : decode prog_13_method_54_code 243 = .ok (.iload_n 2, 1) := by decide +kernel
theorem d_M_size_244 : decode prog_13_method_54_code 244 = .ok (.putfield 81, 3) := by decide +kernel
theorem d_M_size_247 : decode prog_13_method_54_code 247 = .ok (.aload_n 0, 1) := by decide +kernel
theorem d_M_size_248 : decode prog_13_method_54_code 248 = .ok (.iconst 0, 1) := by decide +kernel
theorem d_M_size_249 : decode prog_13_method_54_code 249 = .ok (.putfield 263, 3) := by decide +kernel
theorem d_M_size_252 : decode prog_13_method_54_code 252 = .ok (.aload_n 0, 1) := by decide +kernel
theorem d_M_size_253 : decode prog_13_method_54_code 253 = .ok (.iconst 0, 1) := by decide +kernel
theorem d_M_size_254 : decode prog_13_method_54_code 254 = .ok (.putfield 266, 3) := by decide +kernel
theorem d_M_size_257 : decode prog_13_method_54_code 257 = .ok (.aload_n 0, 1) := by decide +kernel
theorem d_M_size_258 : decode prog_13_method_54_code 258 = .ok (.iconst 0, 1) := by decide +kernel
theorem d_M_size_259 : decode prog_13_method_54_code 259 = .ok (.putfield 260, 3) := by decide +kernel
theorem d_M_size_262 : decode prog_13_method_54_code 262 = .ok (.aload_n 0, 1) := by decide +kernel
theorem d_M_size_263 : decode prog_13_method_54_code 263 = .ok (.iconst (-1), 1) := by decide +kernel
theorem d_M_size_264 : decode prog_13_method_54_code 264 = .ok (.putfield 68, 3) := by decide +kernel
theorem d_M_size_267 : decode prog_13_method_54_code 267 = .ok (.aload_n 0, 1) := by decide +kernel
theorem d_M_size_268 : decode prog_13_method_54_code 268 = .ok (.iconst 1, 1) := by decide +kernel
theorem d_M_size_269 : decode prog_13_method_54_code 269 = .ok (.putfield 71, 3) := by decide +kernel
theorem d_M_size_272 : decode prog_13_method_54_code 272 = .ok (.iconst 1, 1) := by decide +kernel
theorem d_M_size_273 : decode prog_13_method_54_code 273 = .ok (.ireturn, 1) := by decide +kernel
theorem d_M_text_0 : decode prog_13_method_55_code 0 = .ok (.iload_n 1, 1) := by decide +kernel
theorem d_M_text_1 : decode prog_13_method_55_code 1 = .ok (.ifCond .lt 11, 3) := by decide +kernel
theorem d_M_text_4 : decode prog_13_method_55_code 4 = .ok (.iload_n 1, 1) := by decide +kernel
theorem d_M_text_5 : decode prog_13_method_55_code 5 = .ok (.aload_n 0, 1) := by decide +kernel
theorem d_M_text_6 : decode prog_13_method_55_code 6 = .ok (.getfield 87, 3) := by decide +kernel
theorem d_M_text_9 : decode prog_13_method_55_code 9 = .ok (.if_icmp .lt 7, 3) := by decide +kernel
theorem d_M_text_12 : decode prog_13_method_55_code 12 = .ok (.iconst (-1), 1) := by decide +kernel
theorem d_M_text_13 : decode prog_13_method_55_code 13 = .ok (.goto 9, 3) := by decide +kernel
theorem d_M_text_16 : decode prog_13_method_55_code 16 = .ok (.aload_n 0, 1) := by decide +kernel
theorem d_M_text_17 : decode prog_13_method_55_code 17 = .ok (.getfield 7, 3) := by decide +kernel
theorem d_M_text_20 : decode prog_13_method_55_code 20 = .ok (.iload_n 1, 1) := by decide +kernel
theorem d_M_text_21 : decode prog_13_method_55_code 21 = .ok (.iaload, 1) := by decide +kernel
theorem d_M_text_22 : decode prog_13_method_55_code 22 = .ok (.ireturn, 1) := by decide +kernel
theorem d_M_state_0 : decode prog_13_method_56_code 0 = .ok (.iload_n 1, 1) := by decide +kernel
theorem d_M_state_1 : decode prog_13_method_56_code 1 = .ok (.tableswitch 110 0 7 #[47, 52, 59, 64, 69, 76, 81, 97], 47) := by decide +kernel
theorem d_M_state_48 : decode prog_13_method_56_code 48 = .ok (.aload_n 0, 1) := by decide +kernel
theorem d_M_state_49 : decode prog_13_method_56_code 49 = .ok (.getfield 117, 3) := by decide +kernel
theorem d_M_state_52 : decode prog_13_method_56_code 52 = .ok (.ireturn, 1) := by decide +kernel
theorem d_M_state_53 : decode prog_13_method_56_code 53 = .ok (.aload_n 0, 1) := by decide +kernel
theorem d_M_state_54 : decode prog_13_method_56_code 54 = .ok (.getfield 13, 3) := by decide +kernel
theorem d_M_state_57 : decode prog_13_method_56_code 57 = .ok (.iconst 1, 1) := by decide +kernel
theorem d_M_state_58 : decode prog_13_method_56_code 58 = .ok (.iadd, 1) := by decide +kernel
theorem d_M_state_59 : decode prog_13_method_56_code 59 = .ok (.ireturn, 1) := by decide +kernel
theorem d_M_state_60 : decode prog_13_method_56_code 60 = .ok (.aload_n 0, 1) := by decide +kernel
theorem d_M_state_61 : decode prog_13_method_56_code 61 = .ok (.getfield 132, 3) := by decide +kernel
theorem d_M_state_64 : decode prog_13_method_56_code 64 = .ok (.ireturn, 1) := by decide +kernel
theorem d_M_state_65 : decode prog_13_method_56_code 65 = .ok (.aload_n 0, 1) := by decide +kernel
theorem d_M_state_66 : decode prog_13_method_56_code 66 = .ok (.getfield 111, 3) := by decide +kernel
theorem d_M_state_69 : decode prog_13_method_56_code 69 = .ok (.ireturn, 1) := by decide +kernel
theorem d_M_state_70 : decode prog_13_method_56_code 70 = .ok (.aload_n 0, 1) := by decide +kernel
theorem d_M_state_71 : decode prog_13_method_56_code 71 = .ok (.getfield 20, 3) := by decide +kernel
theorem d_M_state_74 : decode prog_13_method_56_code 74 = .ok (.iconst 1, 1) := by decide +kernel
theorem d_M_state_75 : decode prog_13_method_56_code 75 = .ok (.iadd, 1) := by decide +kernel
theorem d_M_state_76 : decode prog_13_method_56_code 76 = .ok (.ireturn, 1) := by decide +kernel
theorem d_M_state_77 : decode prog_13_method_56_code 77 = .ok (.aload_n 0, 1) := by decide +kernel
theorem d_M_state_78 : decode prog_13_method_56_code 78 = .ok (.getfield 222, 3) := by decide +kernel
theorem d_M_state_81 : decode prog_13_method_56_code 81 = .ok (.ireturn, 1) := by decide +kernel
theorem d_M_state_82 : decode prog_13_method_56_code 82 = .ok (.aload_n 0, 1) := by decide +kernel
theorem d_M_state_83 : decode prog_13_method_56_code 83 = .ok (.getfield 184, 3) := by decide +kernel
theorem d_M_state_86 : decode prog_13_method_56_code 86 = .ok (.ifCond .le 7, 3) := by decide +kernel
theorem d_M_state_89 : decode prog_13_method_56_code 89 = .ok (.iconst 3, 1) := by decide +kernel
theorem d_M_state_90 : decode prog_13_method_56_code 90 = .ok (.goto 7, 3) := by decide +kernel
theorem d_M_state_93 : decode prog_13_method_56_code 93 = .ok (.aload_n 0, 1) := by decide +kernel
theorem d_M_state_94 : decode prog_13_method_56_code 94 = .ok (.getfield 181, 3) := by decide +kernel
theorem d_M_state_97 : decode prog_13_method_56_code 97 = .ok (.ireturn, 1) := by decide +kernel
theorem d_M_state_98 : decode prog_13_method_56_code 98 = .ok (.aload_n 0, 1) := by decide +kernel
theorem d_M_state_99 : decode prog_13_method_56_code 99 = .ok (.getfield 147, 3) := by decide +kernel
theorem d_M_state_102 : decode prog_13_method_56_code 102 = .ok (.ifCond .eq 7, 3) := by decide +kernel
theorem d_M_state_105 : decode prog_13_method_56_code 105 = .ok (.iconst 1, 1) := by decide +kernel
theorem d_M_state_106 : decode prog_13_method_56_code 106 = .ok (.goto 4, 3) := by decide +kernel
theorem d_M_state_109 : decode prog_13_method_56_code 109 = .ok (.iconst 0, 1) := by decide +kernel
theorem d_M_state_110 : decode prog_13_method_56_code 110 = .ok (.ireturn, 1) := by decide +kernel
theorem d_M_state_111 : decode prog_13_method_56_code 111 = .ok (.iconst (-1), 1) := by decide +kernel
theorem d_M_state_112 : decode prog_13_method_56_code 112 = .ok (.ireturn, 1) := by decide +kernel
theorem d_M_isCell_0 : decode prog_13_method_57_code 0 = .ok (.iload_n 1, 1) := by decide +kernel
theorem d_M_isCell_1 : decode prog_13_method_57_code 1 = .ok (.ifCond .lt 27, 3) := by decide +kernel
theorem d_M_isCell_4 : decode prog_13_method_57_code 4 = .ok (.iload_n 1, 1) := by decide +kernel
theorem d_M_isCell_5 : decode prog_13_method_57_code 5 = .ok (.aload_n 0, 1) := by decide +kernel
theorem d_M_isCell_6 : decode prog_13_method_57_code 6 = .ok (.getfield 81, 3) := by decide +kernel
theorem d_M_isCell_9 : decode prog_13_method_57_code 9 = .ok (.if_icmp .ge 19, 3) := by decide +kernel
theorem d_M_isCell_12 : decode prog_13_method_57_code 12 = .ok (.iload_n 2, 1) := by decide +kernel
theorem d_M_isCell_13 : decode prog_13_method_57_code 13 = .ok (.ifCond .lt 15, 3) := by decide +kernel
theorem d_M_isCell_16 : decode prog_13_method_57_code 16 = .ok (.iload_n 2, 1) := by decide +kernel
theorem d_M_isCell_17 : decode prog_13_method_57_code 17 = .ok (.aload_n 0, 1) := by decide +kernel
theorem d_M_isCell_18 : decode prog_13_method_57_code 18 = .ok (.getfield 78, 3) := by decide +kernel
theorem d_M_isCell_21 : decode prog_13_method_57_code 21 = .ok (.if_icmp .ge 7, 3) := by decide +kernel
theorem d_M_isCell_24 : decode prog_13_method_57_code 24 = .ok (.iconst 1, 1) := by decide +kernel
theorem d_M_isCell_25 : decode prog_13_method_57_code 25 = .ok (.goto 4, 3) := by decide +kernel
theorem d_M_isCell_28 : decode prog_13_method_57_code 28 = .ok (.iconst 0, 1) := by decide +kernel
theorem d_M_isCell_29 : decode prog_13_method_57_code 29 = .ok (.ireturn, 1) := by decide +kernel
theorem d_M_cell_0 : decode prog_13_method_58_code 0 = .ok (.aload_n 0, 1) := by decide +kernel
theorem d_M_cell_1 : decode prog_13_method_58_code 1 = .ok (.iload_n 1, 1) := by decide +kernel
theorem d_M_cell_2 : decode prog_13_method_58_code 2 = .ok (.iload_n 2, 1) := by decide +kernel
theorem d_M_cell_3 : decode prog_13_method_58_code 3 = .ok (.invokevirtual 309, 3) := by decide +kernel
theorem d_M_cell_6 : decode prog_13_method_58_code 6 = .ok (.ifCond .eq 19, 3) := by decide +kernel
theorem d_M_cell_9 : decode prog_13_method_58_code 9 = .ok (.aload_n 0, 1) := by decide +kernel
theorem d_M_cell_10 : decode prog_13_method_58_code 10 = .ok (.getfield 56, 3) := by decide +kernel
theorem d_M_cell_13 : decode prog_13_method_58_code 13 = .ok (.aload_n 0, 1) := by decide +kernel
theorem d_M_cell_14 : decode prog_13_method_58_code 14 = .ok (.getfield 78, 3) := by decide +kernel
theorem d_M_cell_17 : decode prog_13_method_58_code 17 = .ok (.iload_n 1, 1) := by decide +kernel
theorem d_M_cell_18 : decode prog_13_method_58_code 18 = .ok (.imul, 1) := by decide +kernel
theorem d_M_cell_19 : decode prog_13_method_58_code 19 = .ok (.iload_n 2, 1) := by decide +kernel
theorem d_M_cell_20 : decode prog_13_method_58_code 20 = .ok (.iadd, 1) := by decide +kernel
theorem d_M_cell_21 : decode prog_13_method_58_code 21 = .ok (.iaload, 1) := by decide +kernel
theorem d_M_cell_22 : decode prog_13_method_58_code 22 = .ok (.goto 4, 3) := by decide +kernel
theorem d_M_cell_25 : decode prog_13_method_58_code 25 = .ok (.iconst (-1), 1) := by decide +kernel
theorem d_M_cell_26 : decode prog_13_method_58_code 26 = .ok (.ireturn, 1) := by decide +kernel
theorem d_M_look_0 : decode prog_13_method_59_code 0 = .ok (.aload_n 0, 1) := by decide +kernel
theorem d_M_look_1 : decode prog_13_method_59_code 1 = .ok (.iload_n 1, 1) := by decide +kernel
theorem d_M_look_2 : decode prog_13_method_59_code 2 = .ok (.iload_n 2, 1) := by decide +kernel
theorem d_M_look_3 : decode prog_13_method_59_code 3 = .ok (.invokevirtual 309, 3) := by decide +kernel
theorem d_M_look_6 : decode prog_13_method_59_code 6 = .ok (.ifCond .eq 19, 3) := by decide +kernel
theorem d_M_look_9 : decode prog_13_method_59_code 9 = .ok (.aload_n 0, 1) := by decide +kernel
theorem d_M_look_10 : decode prog_13_method_59_code 10 = .ok (.getfield 59, 3) := by decide +kernel
theorem d_M_look_13 : decode prog_13_method_59_code 13 = .ok (.aload_n 0, 1) := by decide +kernel
theorem d_M_look_14 : decode prog_13_method_59_code 14 = .ok (.getfield 78, 3) := by decide +kernel
theorem d_M_look_17 : decode prog_13_method_59_code 17 = .ok (.iload_n 1, 1) := by decide +kernel
theorem d_M_look_18 : decode prog_13_method_59_code 18 = .ok (.imul, 1) := by decide +kernel
theorem d_M_look_19 : decode prog_13_method_59_code 19 = .ok (.iload_n 2, 1) := by decide +kernel
theorem d_M_look_20 : decode prog_13_method_59_code 20 = .ok (.iadd, 1) := by decide +kernel
theorem d_M_look_21 : decode prog_13_method_59_code 21 = .ok (.iaload, 1) := by decide +kernel
theorem d_M_look_22 : decode prog_13_method_59_code 22 = .ok (.goto 4, 3) := by decide +kernel
theorem d_M_look_25 : decode prog_13_method_59_code 25 = .ok (.iconst (-1), 1) := by decide +kernel
theorem d_M_look_26 : decode prog_13_method_59_code 26 = .ok (.ireturn, 1) := by decide +kernel
theorem d_M_terminal_0 : decode prog_13_method_60_code 0 = .ok (.iload_n 1, 1) := by decide +kernel
theorem d_M_terminal_1 : decode prog_13_method_60_code 1 = .ok (.tableswitch 59 0 3 #[31, 36, 41, 54], 31) := by decide +kernel
theorem d_M_terminal_32 : decode prog_13_method_60_code 32 = .ok (.aload_n 0, 1) := by decide +kernel
theorem d_M_terminal_33 : decode prog_13_method_60_code 33 = .ok (.getfield 263, 3) := by decide +kernel
theorem d_M_terminal_36 : decode prog_13_method_60_code 36 = .ok (.ireturn, 1) := by decide +kernel
theorem d_M_terminal_37 : decode prog_13_method_60_code 37 = .ok (.aload_n 0, 1) := by decide +kernel
theorem d_M_terminal_38 : decode prog_13_method_60_code 38 = .ok (.getfield 266, 3) := by decide +kernel
theorem d_M_terminal_41 : decode prog_13_method_60_code 41 = .ok (.ireturn, 1) := by decide +kernel
theorem d_M_terminal_42 : decode prog_13_method_60_code 42 = .ok (.aload_n 0, 1) := by decide +kernel
theorem d_M_terminal_43 : decode prog_13_method_60_code 43 = .ok (.getfield 260, 3) := by decide +kernel
theorem d_M_terminal_46 : decode prog_13_method_60_code 46 = .ok (.ifCond .eq 7, 3) := by decide +kernel
theorem d_M_terminal_49 : decode prog_13_method_60_code 49 = .ok (.iconst 1, 1) := by decide +kernel
theorem d_M_terminal_50 : decode prog_13_method_60_code 50 = .ok (.goto 4, 3) := by decide +kernel
theorem d_M_terminal_53 : decode prog_13_method_60_code 53 = .ok (.iconst 0, 1) := by decide +kernel
theorem d_M_terminal_54 : decode prog_13_method_60_code 54 = .ok (.ireturn, 1) := by decide +kernel
theorem d_M_terminal_55 : decode prog_13_method_60_code 55 = .ok (.aload_n 0, 1) := by decide +kernel
theorem d_M_terminal_56 : decode prog_13_method_60_code 56 = .ok (.getfield 272, 3) := by decide +kernel
theorem d_M_terminal_59 : decode prog_13_method_60_code 59 = .ok (.ireturn, 1) := by decide +kernel
theorem d_M_terminal_60 : decode prog_13_method_60_code 60 = .ok (.iconst (-1), 1) := by decide +kernel
theorem d_M_terminal_61 : decode prog_13_method_60_code 61 = .ok (.ireturn, 1) := by decide +kernel
theorem d_M_sent_0 : decode prog_13_method_61_code 0 = .ok (.iload_n 1, 1) := by decide +kernel
theorem d_M_sent_1 : decode prog_13_method_61_code 1 = .ok (.ifCond .lt 11, 3) := by decide +kernel
theorem d_M_sent_4 : decode prog_13_method_61_code 4 = .ok (.iload_n 1, 1) := by decide +kernel
theorem d_M_sent_5 : decode prog_13_method_61_code 5 = .ok (.aload_n 0, 1) := by decide +kernel
theorem d_M_sent_6 : decode prog_13_method_61_code 6 = .ok (.getfield 250, 3) := by decide +kernel
theorem d_M_sent_9 : decode prog_13_method_61_code 9 = .ok (.if_icmp .lt 7, 3) := by decide +kernel
theorem d_M_sent_12 : decode prog_13_method_61_code 12 = .ok (.iconst (-1), 1) := by decide +kernel
theorem d_M_sent_13 : decode prog_13_method_61_code 13 = .ok (.goto 9, 3) := by decide +kernel
theorem d_M_sent_16 : decode prog_13_method_61_code 16 = .ok (.aload_n 0, 1) := by decide +kernel
theorem d_M_sent_17 : decode prog_13_method_61_code 17 = .ok (.getfield 75, 3) := by decide +kernel
theorem d_M_sent_20 : decode prog_13_method_61_code 20 = .ok (.iload_n 1, 1) := by decide +kernel
theorem d_M_sent_21 : decode prog_13_method_61_code 21 = .ok (.iaload, 1) := by decide +kernel
theorem d_M_sent_22 : decode prog_13_method_61_code 22 = .ok (.ireturn, 1) := by decide +kernel
