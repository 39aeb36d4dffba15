theorem d_C_isMark_0 : decode prog_2_method_2_code 0 = .ok (.iload_n 0, 1) := by decide +kernel
theorem d_C_isMark_1 : decode prog_2_method_2_code 1 = .ok (.sipush 768, 3) := by decide +kernel
theorem d_C_isMark_4 : decode prog_2_method_2_code 4 = .ok (.if_icmp .lt 14, 3) := by decide +kernel
theorem d_C_isMark_7 : decode prog_2_method_2_code 7 = .ok (.iload_n 0, 1) := by decide +kernel
theorem d_C_isMark_8 : decode prog_2_method_2_code 8 = .ok (.sipush 879, 3) := by decide +kernel
theorem d_C_isMark_11 : decode prog_2_method_2_code 11 = .ok (.if_icmp .gt 7, 3) := by decide +kernel
theorem d_C_isMark_14 : decode prog_2_method_2_code 14 = .ok (.iconst 1, 1) := by decide +kernel
theorem d_C_isMark_15 : decode prog_2_method_2_code 15 = .ok (.goto 4, 3) := by decide +kernel
theorem d_C_isMark_18 : decode prog_2_method_2_code 18 = .ok (.iconst 0, 1) := by decide +kernel
theorem d_C_isMark_19 : decode prog_2_method_2_code 19 = .ok (.ireturn, 1) := by decide +kernel
theorem d_C_takesMarks_0 : decode prog_2_method_3_code 0 = .ok (.iload_n 0, 1) := by decide +kernel
theorem d_C_takesMarks_1 : decode prog_2_method_3_code 1 = .ok (.bipush 32, 2) := by decide +kernel
theorem d_C_takesMarks_3 : decode prog_2_method_3_code 3 = .ok (.if_icmp .lt 14, 3) := by decide +kernel
theorem d_C_takesMarks_6 : decode prog_2_method_3_code 6 = .ok (.iload_n 0, 1) := by decide +kernel
theorem d_C_takesMarks_7 : decode prog_2_method_3_code 7 = .ok (.invokestatic 9, 3) := by decide +kernel
theorem d_C_takesMarks_10 : decode prog_2_method_3_code 10 = .ok (.ifCond .ne 7, 3) := by decide +kernel
theorem d_C_takesMarks_13 : decode prog_2_method_3_code 13 = .ok (.iconst 1, 1) := by decide +kernel
theorem d_C_takesMarks_14 : decode prog_2_method_3_code 14 = .ok (.goto 4, 3) := by decide +kernel
theorem d_C_takesMarks_17 : decode prog_2_method_3_code 17 = .ok (.iconst 0, 1) := by decide +kernel
theorem d_C_takesMarks_18 : decode prog_2_method_3_code 18 = .ok (.ireturn, 1) := by decide +kernel
theorem d_C_isWide_0 : decode prog_2_method_4_code 0 = .ok (.iload_n 0, 1) := by decide +kernel
theorem d_C_isWide_1 : decode prog_2_method_4_code 1 = .ok (.sipush 11904, 3) := by decide +kernel
theorem d_C_isWide_4 : decode prog_2_method_4_code 4 = .ok (.if_icmp .lt 9, 3) := by decide +kernel
theorem d_C_isWide_7 : decode prog_2_method_4_code 7 = .ok (.iload_n 0, 1) := by decide +kernel
theorem d_C_isWide_8 : decode prog_2_method_4_code 8 = .ok (.ldc 15, 2) := by decide +kernel
theorem d_C_isWide_10 : decode prog_2_method_4_code 10 = .ok (.if_icmp .le 15, 3) := by decide +kernel
theorem d_C_isWide_13 : decode prog_2_method_4_code 13 = .ok (.iload_n 0, 1) := by decide +kernel
theorem d_C_isWide_14 : decode prog_2_method_4_code 14 = .ok (.ldc 16, 2) := by decide +kernel
theorem d_C_isWide_16 : decode prog_2_method_4_code 16 = .ok (.if_icmp .lt 13, 3) := by decide +kernel
theorem d_C_isWide_19 : decode prog_2_method_4_code 19 = .ok (.iload_n 0, 1) := by decide +kernel
theorem d_C_isWide_20 : decode prog_2_method_4_code 20 = .ok (.ldc 17, 2) := by decide +kernel
theorem d_C_isWide_22 : decode prog_2_method_4_code 22 = .ok (.if_icmp .gt 7, 3) := by decide +kernel
theorem d_C_isWide_25 : decode prog_2_method_4_code 25 = .ok (.iconst 1, 1) := by decide +kernel
theorem d_C_isWide_26 : decode prog_2_method_4_code 26 = .ok (.goto 4, 3) := by decide +kernel
theorem d_C_isWide_29 : decode prog_2_method_4_code 29 = .ok (.iconst 0, 1) := by decide +kernel
theorem d_C_isWide_30 : decode prog_2_method_4_code 30 = .ok (.ireturn, 1) := by decide +kernel
theorem d_C_widthOf_0 : decode prog_2_method_5_code 0 = .ok (.iload_n 0, 1) := by decide +kernel
theorem d_C_widthOf_1 : decode prog_2_method_5_code 1 = .ok (.invokestatic 18, 3) := by decide +kernel
theorem d_C_widthOf_4 : decode prog_2_method_5_code 4 = .ok (.ifCond .eq 7, 3) := by decide +kernel
theorem d_C_widthOf_7 : decode prog_2_method_5_code 7 = .ok (.iconst 2, 1) := by decide +kernel
theorem d_C_widthOf_8 : decode prog_2_method_5_code 8 = .ok (.goto 4, 3) := by decide +kernel
theorem d_C_widthOf_11 : decode prog_2_method_5_code 11 = .ok (.iconst 1, 1) := by decide +kernel
theorem d_C_widthOf_12 : decode prog_2_method_5_code 12 = .ok (.ireturn, 1) := by decide +kernel
theorem d_C_characterOf_0 : decode prog_2_method_6_code 0 = .ok (.iload_n 0, 1) := by decide +kernel
theorem d_C_characterOf_1 : decode prog_2_method_6_code 1 = .ok (.ldc 21, 2) := by decide +kernel
theorem d_C_characterOf_3 : decode prog_2_method_6_code 3 = .ok (.irem, 1) := by decide +kernel
theorem d_C_characterOf_4 : decode prog_2_method_6_code 4 = .ok (.ireturn, 1) := by decide +kernel
theorem d_C_firstMarkOf_0 : decode prog_2_method_7_code 0 = .ok (.iload_n 0, 1) := by decide +kernel
theorem d_C_firstMarkOf_1 : decode prog_2_method_7_code 1 = .ok (.ldc 22, 2) := by decide +kernel
theorem d_C_firstMarkOf_3 : decode prog_2_method_7_code 3 = .ok (.irem, 1) := by decide +kernel
theorem d_C_firstMarkOf_4 : decode prog_2_method_7_code 4 = .ok (.ldc 21, 2) := by decide +kernel
theorem d_C_firstMarkOf_6 : decode prog_2_method_7_code 6 = .ok (.idiv, 1) := by decide +kernel
theorem d_C_firstMarkOf_7 : decode prog_2_method_7_code 7 = .ok (.istore_n 1, 1) := by decide +kernel
theorem d_C_firstMarkOf_8 : decode prog_2_method_7_code 8 = .ok (.iload_n 1, 1) := by decide +kernel
theorem d_C_firstMarkOf_9 : decode prog_2_method_7_code 9 = .ok (.ifCond .ne 7, 3) := by decide +kernel
theorem d_C_firstMarkOf_12 : decode prog_2_method_7_code 12 = .ok (.iconst (-1), 1) := by decide +kernel
theorem d_C_firstMarkOf_13 : decode prog_2_method_7_code 13 = .ok (.goto 8, 3) := by decide +kernel
theorem d_C_firstMarkOf_16 : decode prog_2_method_7_code 16 = .ok (.iload_n 1, 1) := by decide +kernel
theorem d_C_firstMarkOf_17 : decode prog_2_method_7_code 17 = .ok (.sipush 767, 3) := by decide +kernel
theorem d_C_firstMarkOf_20 : decode prog_2_method_7_code 20 = .ok (.iadd, 1) := by decide +kernel
theorem d_C_firstMarkOf_21 : decode prog_2_method_7_code 21 = .ok (.ireturn, 1) := by decide +kernel
theorem d_C_secondMarkOf_0 : decode prog_2_method_8_code 0 = .ok (.iload_n 0, 1) := by decide +kernel
theorem d_C_secondMarkOf_1 : decode prog_2_method_8_code 1 = .ok (.ldc 22, 2) := by decide +kernel
theorem d_C_secondMarkOf_3 : decode prog_2_method_8_code 3 = .ok (.idiv, 1) := by decide +kernel
theorem d_C_secondMarkOf_4 : decode prog_2_method_8_code 4 = .ok (.istore_n 1, 1) := by decide +kernel
theorem d_C_secondMarkOf_5 : decode prog_2_method_8_code 5 = .ok (.iload_n 1, 1) := by decide +kernel
theorem d_C_secondMarkOf_6 : decode prog_2_method_8_code 6 = .ok (.ifCond .ne 7, 3) := by decide +kernel
theorem d_C_secondMarkOf_9 : decode prog_2_method_8_code 9 = .ok (.iconst (-1), 1) := by decide +kernel
theorem d_C_secondMarkOf_10 : decode prog_2_method_8_code 10 = .ok (.goto 8, 3) := by decide +kernel
theorem d_C_secondMarkOf_13 : decode prog_2_method_8_code 13 = .ok (.iload_n 1, 1) := by decide +kernel
theorem d_C_secondMarkOf_14 : decode prog_2_method_8_code 14 = .ok (.sipush 767, 3) := by decide +kernel
theorem d_C_secondMarkOf_17 : decode prog_2_method_8_code 17 = .ok (.iadd, 1) := by decide +kernel
theorem d_C_secondMarkOf_18 : decode prog_2_method_8_code 18 = .ok (.ireturn, 1) := by decide +kernel
theorem d_C_withMark_0 : decode prog_2_method_9_code 0 = .ok (.iload_n 0, 1) := by decide +kernel
theorem d_C_withMark_1 : decode prog_2_method_9_code 1 = .ok (.ldc 21, 2) := by decide +kernel
theorem d_C_withMark_3 : decode prog_2_method_9_code 3 = .ok (.if_icmp .ge 8, 3) := by decide +kernel
theorem d_C_withMark_6 : decode prog_2_method_9_code 6 = .ok (.ldc 21, 2) := by decide +kernel
theorem d_C_withMark_8 : decode prog_2_method_9_code 8 = .ok (.goto 5, 3) := by decide +kernel
theorem d_C_withMark_11 : decode prog_2_method_9_code 11 = .ok (.ldc 22, 2) := by decide +kernel
theorem d_C_withMark_13 : decode prog_2_method_9_code 13 = .ok (.istore_n 2, 1) := by decide +kernel
theorem d_C_withMark_14 : decode prog_2_method_9_code 14 = .ok (.iload_n 0, 1) := by decide +kernel
theorem d_C_withMark_15 : decode prog_2_method_9_code 15 = .ok (.iload_n 2, 1) := by decide +kernel
theorem d_C_withMark_16 : decode prog_2_method_9_code 16 = .ok (.iload_n 1, 1) := by decide +kernel
theorem d_C_withMark_17 : decode prog_2_method_9_code 17 = .ok (.sipush 767, 3) := by decide +kernel
theorem d_C_withMark_20 : decode prog_2_method_9_code 20 = .ok (.isub, 1) := by decide +kernel
theorem d_C_withMark_21 : decode prog_2_method_9_code 21 = .ok (.imul, 1) := by decide +kernel
theorem d_C_withMark_22 : decode prog_2_method_9_code 22 = .ok (.iadd, 1) := by decide +kernel
theorem d_C_withMark_23 : decode prog_2_method_9_code 23 = .ok (.ireturn, 1) := by decide +kernel
theorem d_A_fill_0 : decode prog_23_method_103_code 0 = .ok (.iconst 0, 1) := by decide +kernel
theorem d_A_fill_1 : decode prog_23_method_103_code 1 = .ok (.istore_n 2, 1) := by decide +kernel
theorem d_A_fill_2 : decode prog_23_method_103_code 2 = .ok (.aload_n 0, 1) := by decide +kernel
theorem d_A_fill_3 : decode prog_23_method_103_code 3 = .ok (.arraylength, 1) := by decide +kernel
theorem d_A_fill_4 : decode prog_23_method_103_code 4 = .ok (.istore_n 3, 1) := by decide +kernel
theorem d_A_fill_5 : decode prog_23_method_103_code 5 = .ok (.iload_n 2, 1) := by decide +kernel
theorem d_A_fill_6 : decode prog_23_method_103_code 6 = .ok (.iload_n 3, 1) := by decide +kernel
theorem d_A_fill_7 : decode prog_23_method_103_code 7 = .ok (.if_icmp .ge 13, 3) := by decide +kernel
theorem d_A_fill_10 : decode prog_23_method_103_code 10 = .ok (.aload_n 0, 1) := by decide +kernel
theorem d_A_fill_11 : decode prog_23_method_103_code 11 = .ok (.iload_n 2, 1) := by decide +kernel
theorem d_A_fill_12 : decode prog_23_method_103_code 12 = .ok (.iload_n 1, 1) := by decide +kernel
theorem d_A_fill_13 : decode prog_23_method_103_code 13 = .ok (.iastore, 1) := by decide +kernel
theorem d_A_fill_14 : decode prog_23_method_103_code 14 = .ok (.iinc 2 1, 3) := by decide +kernel
theorem d_A_fill_17 : decode prog_23_method_103_code 17 = .ok (.goto (-12), 3) := by decide +kernel
theorem d_A_fill_20 : decode prog_23_method_103_code 20 = .ok (.return_, 1) := by decide +kernel
