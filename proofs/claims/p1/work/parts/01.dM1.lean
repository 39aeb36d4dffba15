theorem d_M_isMark_0 : decode prog_13_method_2_code 0 = .ok (.iload_n 0, 1) := by decide +kernel
theorem d_M_isMark_1 : decode prog_13_method_2_code 1 = .ok (.sipush 768, 3) := by decide +kernel
theorem d_M_isMark_4 : decode prog_13_method_2_code 4 = .ok (.if_icmp .lt 14, 3) := by decide +kernel
theorem d_M_isMark_7 : decode prog_13_method_2_code 7 = .ok (.iload_n 0, 1) := by decide +kernel
theorem d_M_isMark_8 : decode prog_13_method_2_code 8 = .ok (.sipush 879, 3) := by decide +kernel
theorem d_M_isMark_11 : decode prog_13_method_2_code 11 = .ok (.if_icmp .gt 7, 3) := by decide +kernel
theorem d_M_isMark_14 : decode prog_13_method_2_code 14 = .ok (.iconst 1, 1) := by decide +kernel
theorem d_M_isMark_15 : decode prog_13_method_2_code 15 = .ok (.goto 4, 3) := by decide +kernel
theorem d_M_isMark_18 : decode prog_13_method_2_code 18 = .ok (.iconst 0, 1) := by decide +kernel
theorem d_M_isMark_19 : decode prog_13_method_2_code 19 = .ok (.ireturn, 1) := by decide +kernel
theorem d_M_isWide_0 : decode prog_13_method_3_code 0 = .ok (.iload_n 0, 1) := by decide +kernel
theorem d_M_isWide_1 : decode prog_13_method_3_code 1 = .ok (.sipush 11904, 3) := by decide +kernel
theorem d_M_isWide_4 : decode prog_13_method_3_code 4 = .ok (.if_icmp .lt 9, 3) := by decide +kernel
theorem d_M_isWide_7 : decode prog_13_method_3_code 7 = .ok (.iload_n 0, 1) := by decide +kernel
theorem d_M_isWide_8 : decode prog_13_method_3_code 8 = .ok (.ldc 84, 2) := by decide +kernel
theorem d_M_isWide_10 : decode prog_13_method_3_code 10 = .ok (.if_icmp .le 15, 3) := by decide +kernel
theorem d_M_isWide_13 : decode prog_13_method_3_code 13 = .ok (.iload_n 0, 1) := by decide +kernel
theorem d_M_isWide_14 : decode prog_13_method_3_code 14 = .ok (.ldc 85, 2) := by decide +kernel
theorem d_M_isWide_16 : decode prog_13_method_3_code 16 = .ok (.if_icmp .lt 13, 3) := by decide +kernel
theorem d_M_isWide_19 : decode prog_13_method_3_code 19 = .ok (.iload_n 0, 1) := by decide +kernel
theorem d_M_isWide_20 : decode prog_13_method_3_code 20 = .ok (.ldc 86, 2) := by decide +kernel
theorem d_M_isWide_22 : decode prog_13_method_3_code 22 = .ok (.if_icmp .gt 7, 3) := by decide +kernel
theorem d_M_isWide_25 : decode prog_13_method_3_code 25 = .ok (.iconst 1, 1) := by decide +kernel
theorem d_M_isWide_26 : decode prog_13_method_3_code 26 = .ok (.goto 4, 3) := by decide +kernel
theorem d_M_isWide_29 : decode prog_13_method_3_code 29 = .ok (.iconst 0, 1) := by decide +kernel
theorem d_M_isWide_30 : decode prog_13_method_3_code 30 = .ok (.ireturn, 1) := by decide +kernel
theorem d_M_begins_0 : decode prog_13_method_4_code 0 = .ok (.iload_n 1, 1) := by decide +kernel
theorem d_M_begins_1 : decode prog_13_method_4_code 1 = .ok (.aload_n 0, 1) := by decide +kernel
theorem d_M_begins_2 : decode prog_13_method_4_code 2 = .ok (.getfield 87, 3) := by decide +kernel
theorem d_M_begins_5 : decode prog_13_method_4_code 5 = .ok (.if_icmp .ge 15, 3) := by decide +kernel
theorem d_M_begins_8 : decode prog_13_method_4_code 8 = .ok (.aload_n 0, 1) := by decide +kernel
theorem d_M_begins_9 : decode prog_13_method_4_code 9 = .ok (.getfield 7, 3) := by decide +kernel
theorem d_M_begins_12 : decode prog_13_method_4_code 12 = .ok (.iload_n 1, 1) := by decide +kernel
theorem d_M_begins_13 : decode prog_13_method_4_code 13 = .ok (.iaload, 1) := by decide +kernel
theorem d_M_begins_14 : decode prog_13_method_4_code 14 = .ok (.invokestatic 90, 3) := by decide +kernel
theorem d_M_begins_17 : decode prog_13_method_4_code 17 = .ok (.ifCond .ne 5, 3) := by decide +kernel
theorem d_M_begins_20 : decode prog_13_method_4_code 20 = .ok (.iconst 1, 1) := by decide +kernel
theorem d_M_begins_21 : decode prog_13_method_4_code 21 = .ok (.ireturn, 1) := by decide +kernel
theorem d_M_begins_22 : decode prog_13_method_4_code 22 = .ok (.iload_n 1, 1) := by decide +kernel
theorem d_M_begins_23 : decode prog_13_method_4_code 23 = .ok (.iconst 1, 1) := by decide +kernel
theorem d_M_begins_24 : decode prog_13_method_4_code 24 = .ok (.isub, 1) := by decide +kernel
theorem d_M_begins_25 : decode prog_13_method_4_code 25 = .ok (.istore_n 2, 1) := by decide +kernel
theorem d_M_begins_26 : decode prog_13_method_4_code 26 = .ok (.iload_n 2, 1) := by decide +kernel
theorem d_M_begins_27 : decode prog_13_method_4_code 27 = .ok (.ifCond .lt 21, 3) := by decide +kernel
theorem d_M_begins_30 : decode prog_13_method_4_code 30 = .ok (.aload_n 0, 1) := by decide +kernel
theorem d_M_begins_31 : decode prog_13_method_4_code 31 = .ok (.getfield 7, 3) := by decide +kernel
theorem d_M_begins_34 : decode prog_13_method_4_code 34 = .ok (.iload_n 2, 1) := by decide +kernel
theorem d_M_begins_35 : decode prog_13_method_4_code 35 = .ok (.iaload, 1) := by decide +kernel
theorem d_M_begins_36 : decode prog_13_method_4_code 36 = .ok (.invokestatic 90, 3) := by decide +kernel
theorem d_M_begins_39 : decode prog_13_method_4_code 39 = .ok (.ifCond .eq 9, 3) := by decide +kernel
theorem d_M_begins_42 : decode prog_13_method_4_code 42 = .ok (.iinc 2 (-1), 3) := by decide +kernel
theorem d_M_begins_45 : decode prog_13_method_4_code 45 = .ok (.goto (-19), 3) := by decide +kernel
theorem d_M_begins_48 : decode prog_13_method_4_code 48 = .ok (.iload_n 2, 1) := by decide +kernel
theorem d_M_begins_49 : decode prog_13_method_4_code 49 = .ok (.ifCond .lt 32, 3) := by decide +kernel
theorem d_M_begins_52 : decode prog_13_method_4_code 52 = .ok (.aload_n 0, 1) := by decide +kernel
theorem d_M_begins_53 : decode prog_13_method_4_code 53 = .ok (.getfield 7, 3) := by decide +kernel
theorem d_M_begins_56 : decode prog_13_method_4_code 56 = .ok (.iload_n 2, 1) := by decide +kernel
theorem d_M_begins_57 : decode prog_13_method_4_code 57 = .ok (.iaload, 1) := by decide +kernel
theorem d_M_begins_58 : decode prog_13_method_4_code 58 = .ok (.bipush 9, 2) := by decide +kernel
theorem d_M_begins_60 : decode prog_13_method_4_code 60 = .ok (.if_icmp .eq 21, 3) := by decide +kernel
theorem d_M_begins_63 : decode prog_13_method_4_code 63 = .ok (.aload_n 0, 1) := by decide +kernel
theorem d_M_begins_64 : decode prog_13_method_4_code 64 = .ok (.getfield 7, 3) := by decide +kernel
theorem d_M_begins_67 : decode prog_13_method_4_code 67 = .ok (.iload_n 2, 1) := by decide +kernel
theorem d_M_begins_68 : decode prog_13_method_4_code 68 = .ok (.iaload, 1) := by decide +kernel
theorem d_M_begins_69 : decode prog_13_method_4_code 69 = .ok (.bipush 10, 2) := by decide +kernel
theorem d_M_begins_71 : decode prog_13_method_4_code 71 = .ok (.if_icmp .eq 10, 3) := by decide +kernel
theorem d_M_begins_74 : decode prog_13_method_4_code 74 = .ok (.iload_n 1, 1) := by decide +kernel
theorem d_M_begins_75 : decode prog_13_method_4_code 75 = .ok (.iload_n 2, 1) := by decide +kernel
theorem d_M_begins_76 : decode prog_13_method_4_code 76 = .ok (.isub, 1) := by decide +kernel
theorem d_M_begins_77 : decode prog_13_method_4_code 77 = .ok (.iconst 2, 1) := by decide +kernel
theorem d_M_begins_78 : decode prog_13_method_4_code 78 = .ok (.if_icmp .le 7, 3) := by decide +kernel
theorem d_M_begins_81 : decode prog_13_method_4_code 81 = .ok (.iconst 1, 1) := by decide +kernel
theorem d_M_begins_82 : decode prog_13_method_4_code 82 = .ok (.goto 4, 3) := by decide +kernel
theorem d_M_begins_85 : decode prog_13_method_4_code 85 = .ok (.iconst 0, 1) := by decide +kernel
theorem d_M_begins_86 : decode prog_13_method_4_code 86 = .ok (.ireturn, 1) := by decide +kernel
theorem d_M_after_0 : decode prog_13_method_5_code 0 = .ok (.iload_n 1, 1) := by decide +kernel
theorem d_M_after_1 : decode prog_13_method_5_code 1 = .ok (.iconst 1, 1) := by decide +kernel
theorem d_M_after_2 : decode prog_13_method_5_code 2 = .ok (.iadd, 1) := by decide +kernel
theorem d_M_after_3 : decode prog_13_method_5_code 3 = .ok (.istore_n 2, 1) := by decide +kernel
theorem d_M_after_4 : decode prog_13_method_5_code 4 = .ok (.aload_n 0, 1) := by decide +kernel
theorem d_M_after_5 : decode prog_13_method_5_code 5 = .ok (.iload_n 2, 1) := by decide +kernel
theorem d_M_after_6 : decode prog_13_method_5_code 6 = .ok (.invokevirtual 94, 3) := by decide +kernel
theorem d_M_after_9 : decode prog_13_method_5_code 9 = .ok (.ifCond .ne 9, 3) := by decide +kernel
theorem d_M_after_12 : decode prog_13_method_5_code 12 = .ok (.iinc 2 1, 3) := by decide +kernel
theorem d_M_after_15 : decode prog_13_method_5_code 15 = .ok (.goto (-11), 3) := by decide +kernel
theorem d_M_after_18 : decode prog_13_method_5_code 18 = .ok (.iload_n 2, 1) := by decide +kernel
theorem d_M_after_19 : decode prog_13_method_5_code 19 = .ok (.ireturn, 1) := by decide +kernel
theorem d_M_before_0 : decode prog_13_method_6_code 0 = .ok (.iload_n 1, 1) := by decide +kernel
theorem d_M_before_1 : decode prog_13_method_6_code 1 = .ok (.iconst 1, 1) := by decide +kernel
theorem d_M_before_2 : decode prog_13_method_6_code 2 = .ok (.isub, 1) := by decide +kernel
theorem d_M_before_3 : decode prog_13_method_6_code 3 = .ok (.istore_n 2, 1) := by decide +kernel
theorem d_M_before_4 : decode prog_13_method_6_code 4 = .ok (.aload_n 0, 1) := by decide +kernel
theorem d_M_before_5 : decode prog_13_method_6_code 5 = .ok (.iload_n 2, 1) := by decide +kernel
theorem d_M_before_6 : decode prog_13_method_6_code 6 = .ok (.invokevirtual 94, 3) := by decide +kernel
theorem d_M_before_9 : decode prog_13_method_6_code 9 = .ok (.ifCond .ne 9, 3) := by decide +kernel
theorem d_M_before_12 : decode prog_13_method_6_code 12 = .ok (.iinc 2 (-1), 3) := by decide +kernel
theorem d_M_before_15 : decode prog_13_method_6_code 15 = .ok (.goto (-11), 3) := by decide +kernel
theorem d_M_before_18 : decode prog_13_method_6_code 18 = .ok (.iload_n 2, 1) := by decide +kernel
theorem d_M_before_19 : decode prog_13_method_6_code 19 = .ok (.ireturn, 1) := by decide +kernel
theorem d_M_widthOf_0 : decode prog_13_method_7_code 0 = .ok (.iload_n 1, 1) := by decide +kernel
theorem d_M_widthOf_1 : decode prog_13_method_7_code 1 = .ok (.aload_n 0, 1) := by decide +kernel
theorem d_M_widthOf_2 : decode prog_13_method_7_code 2 = .ok (.getfield 87, 3) := by decide +kernel
theorem d_M_widthOf_5 : decode prog_13_method_7_code 5 = .ok (.if_icmp .eq 14, 3) := by decide +kernel
theorem d_M_widthOf_8 : decode prog_13_method_7_code 8 = .ok (.aload_n 0, 1) := by decide +kernel
theorem d_M_widthOf_9 : decode prog_13_method_7_code 9 = .ok (.getfield 7, 3) := by decide +kernel
theorem d_M_widthOf_12 : decode prog_13_method_7_code 12 = .ok (.iload_n 1, 1) := by decide +kernel
theorem d_M_widthOf_13 : decode prog_13_method_7_code 13 = .ok (.iaload, 1) := by decide +kernel
theorem d_M_widthOf_14 : decode prog_13_method_7_code 14 = .ok (.bipush 10, 2) := by decide +kernel
theorem d_M_widthOf_16 : decode prog_13_method_7_code 16 = .ok (.if_icmp .ne 5, 3) := by decide +kernel
theorem d_M_widthOf_19 : decode prog_13_method_7_code 19 = .ok (.iconst 1, 1) := by decide +kernel
theorem d_M_widthOf_20 : decode prog_13_method_7_code 20 = .ok (.ireturn, 1) := by decide +kernel
theorem d_M_widthOf_21 : decode prog_13_method_7_code 21 = .ok (.aload_n 0, 1) := by decide +kernel
theorem d_M_widthOf_22 : decode prog_13_method_7_code 22 = .ok (.getfield 7, 3) := by decide +kernel
theorem d_M_widthOf_25 : decode prog_13_method_7_code 25 = .ok (.iload_n 1, 1) := by decide +kernel
theorem d_M_widthOf_26 : decode prog_13_method_7_code 26 = .ok (.iaload, 1) := by decide +kernel
theorem d_M_widthOf_27 : decode prog_13_method_7_code 27 = .ok (.bipush 9, 2) := by decide +kernel
theorem d_M_widthOf_29 : decode prog_13_method_7_code 29 = .ok (.if_icmp .ne 32, 3) := by decide +kernel
theorem d_M_widthOf_32 : decode prog_13_method_7_code 32 = .ok (.aload_n 0, 1) := by decide +kernel
theorem d_M_widthOf_33 : decode prog_13_method_7_code 33 = .ok (.getfield 78, 3) := by decide +kernel
theorem d_M_widthOf_36 : decode prog_13_method_7_code 36 = .ok (.iload_n 2, 1) := by decide +kernel
theorem d_M_widthOf_37 : decode prog_13_method_7_code 37 = .ok (.isub, 1) := by decide +kernel
theorem d_M_widthOf_38 : decode prog_13_method_7_code 38 = .ok (.iconst 4, 1) := by decide +kernel
theorem d_M_widthOf_39 : decode prog_13_method_7_code 39 = .ok (.iload_n 2, 1) := by decide +kernel
theorem d_M_widthOf_40 : decode prog_13_method_7_code 40 = .ok (.iconst 4, 1) := by decide +kernel
theorem d_M_widthOf_41 : decode prog_13_method_7_code 41 = .ok (.irem, 1) := by decide +kernel
theorem d_M_widthOf_42 : decode prog_13_method_7_code 42 = .ok (.isub, 1) := by decide +kernel
theorem d_M_widthOf_43 : decode prog_13_method_7_code 43 = .ok (.if_icmp .ge 12, 3) := by decide +kernel
theorem d_M_widthOf_46 : decode prog_13_method_7_code 46 = .ok (.aload_n 0, 1) := by decide +kernel
theorem d_M_widthOf_47 : decode prog_13_method_7_code 47 = .ok (.getfield 78, 3) := by decide +kernel
theorem d_M_widthOf_50 : decode prog_13_method_7_code 50 = .ok (.iload_n 2, 1) := by decide +kernel
theorem d_M_widthOf_51 : decode prog_13_method_7_code 51 = .ok (.isub, 1) := by decide +kernel
theorem d_M_widthOf_52 : decode prog_13_method_7_code 52 = .ok (.goto 8, 3) := by decide +kernel
theorem d_M_widthOf_55 : decode prog_13_method_7_code 55 = .ok (.iconst 4, 1) := by decide +kernel
theorem d_M_widthOf_56 : decode prog_13_method_7_code 56 = .ok (.iload_n 2, 1) := by decide +kernel
theorem d_M_widthOf_57 : decode prog_13_method_7_code 57 = .ok (.iconst 4, 1) := by decide +kernel
theorem d_M_widthOf_58 : decode prog_13_method_7_code 58 = .ok (.irem, 1) := by decide +kernel
theorem d_M_widthOf_59 : decode prog_13_method_7_code 59 = .ok (.isub, 1) := by decide +kernel
theorem d_M_widthOf_60 : decode prog_13_method_7_code 60 = .ok (.ireturn, 1) := by decide +kernel
theorem d_M_widthOf_61 : decode prog_13_method_7_code 61 = .ok (.aload_n 0, 1) := by decide +kernel
theorem d_M_widthOf_62 : decode prog_13_method_7_code 62 = .ok (.getfield 7, 3) := by decide +kernel
theorem d_M_widthOf_65 : decode prog_13_method_7_code 65 = .ok (.iload_n 1, 1) := by decide +kernel
theorem d_M_widthOf_66 : decode prog_13_method_7_code 66 = .ok (.iaload, 1) := by decide +kernel
theorem d_M_widthOf_67 : decode prog_13_method_7_code 67 = .ok (.invokestatic 97, 3) := by decide +kernel
theorem d_M_widthOf_70 : decode prog_13_method_7_code 70 = .ok (.ifCond .eq 7, 3) := by decide +kernel
theorem d_M_widthOf_73 : decode prog_13_method_7_code 73 = .ok (.iconst 2, 1) := by decide +kernel
theorem d_M_widthOf_74 : decode prog_13_method_7_code 74 = .ok (.goto 4, 3) := by decide +kernel
theorem d_M_widthOf_77 : decode prog_13_method_7_code 77 = .ok (.iconst 1, 1) := by decide +kernel
theorem d_M_widthOf_78 : decode prog_13_method_7_code 78 = .ok (.ireturn, 1) := by decide +kernel
theorem d_M_layOut_0 : decode prog_13_method_8_code 0 = .ok (.iconst 0, 1) := by decide +kernel
theorem d_M_layOut_1 : decode prog_13_method_8_code 1 = .ok (.istore_n 1, 1) := by decide +kernel
theorem d_M_layOut_2 : decode prog_13_method_8_code 2 = .ok (.iconst 0, 1) := by decide +kernel
theorem d_M_layOut_3 : decode prog_13_method_8_code 3 = .ok (.istore_n 2, 1) := by decide +kernel
theorem d_M_layOut_4 : decode prog_13_method_8_code 4 = .ok (.iconst 0, 1) := by decide +kernel
theorem d_M_layOut_5 : decode prog_13_method_8_code 5 = .ok (.istore_n 3, 1) := by decide +kernel
theorem d_M_layOut_6 : decode prog_13_method_8_code 6 = .ok (.iload_n 3, 1) := by decide +kernel
theorem d_M_layOut_7 : decode prog_13_method_8_code 7 = .ok (.aload_n 0, 1) := by decide +kernel
theorem d_M_layOut_8 : decode prog_13_method_8_code 8 = .ok (.getfield 87, 3) := by decide +kernel
theorem d_M_layOut_11 : decode prog_13_method_8_code 11 = .ok (.if_icmp .gt 143, 3) := by decide +kernel
theorem d_M_layOut_14 : decode prog_13_method_8_code 14 = .ok (.aload_n 0, 1) := by decide +kernel
theorem d_M_layOut_15 : decode prog_13_method_8_code 15 = .ok (.iload_n 3, 1) := by decide +kernel
theorem d_M_layOut_16 : decode prog_13_method_8_code 16 = .ok (.iload_n 2, 1) := by decide +kernel
theorem d_M_layOut_17 : decode prog_13_method_8_code 17 = .ok (.invokevirtual 100, 3) := by decide +kernel
theorem d_M_layOut_20 : decode prog_13_method_8_code 20 = .ok (.istore 4, 2) := by decide +kernel
theorem d_M_layOut_22 : decode prog_13_method_8_code 22 = .ok (.iload 4, 2) := by decide +kernel
theorem d_M_layOut_24 : decode prog_13_method_8_code 24 = .ok (.ifCond .eq 14, 3) := by decide +kernel
theorem d_M_layOut_27 : decode prog_13_method_8_code 27 = .ok (.iload_n 2, 1) := by decide +kernel
theorem d_M_layOut_28 : decode prog_13_method_8_code 28 = .ok (.iload 4, 2) := by decide +kernel
theorem d_M_layOut_30 : decode prog_13_method_8_code 30 = .ok (.iadd, 1) := by decide +kernel
theorem d_M_layOut_31 : decode prog_13_method_8_code 31 = .ok (.aload_n 0, 1) := by decide +kernel
theorem d_M_layOut_32 : decode prog_13_method_8_code 32 = .ok (.getfield 78, 3) := by decide +kernel
theorem d_M_layOut_35 : decode prog_13_method_8_code 35 = .ok (.if_icmp .le 16, 3) := by decide +kernel
theorem d_M_layOut_38 : decode prog_13_method_8_code 38 = .ok (.iinc 1 1, 3) := by decide +kernel
theorem d_M_layOut_41 : decode prog_13_method_8_code 41 = .ok (.iconst 0, 1) := by decide +kernel
theorem d_M_layOut_42 : decode prog_13_method_8_code 42 = .ok (.istore_n 2, 1) := by decide +kernel
theorem d_M_layOut_43 : decode prog_13_method_8_code 43 = .ok (.aload_n 0, 1) := by decide +kernel
theorem d_M_layOut_44 : decode prog_13_method_8_code 44 = .ok (.iload_n 3, 1) := by decide +kernel
theorem d_M_layOut_45 : decode prog_13_method_8_code 45 = .ok (.iconst 0, 1) := by decide +kernel
theorem d_M_layOut_46 : decode prog_13_method_8_code 46 = .ok (.invokevirtual 100, 3) := by decide +kernel
theorem d_M_layOut_49 : decode prog_13_method_8_code 49 = .ok (.istore 4, 2) := by decide +kernel
theorem d_M_layOut_51 : decode prog_13_method_8_code 51 = .ok (.aload_n 0, 1) := by decide +kernel
theorem d_M_layOut_52 : decode prog_13_method_8_code 52 = .ok (.getfield 41, 3) := by decide +kernel
theorem d_M_layOut_55 : decode prog_13_method_8_code 55 = .ok (.iload_n 3, 1) := by decide +kernel
theorem d_M_layOut_56 : decode prog_13_method_8_code 56 = .ok (.iload_n 1, 1) := by decide +kernel
theorem d_M_layOut_57 : decode prog_13_method_8_code 57 = .ok (.iastore, 1) := by decide +kernel
theorem d_M_layOut_58 : decode prog_13_method_8_code 58 = .ok (.aload_n 0, 1) := by decide +kernel
theorem d_M_layOut_59 : decode prog_13_method_8_code 59 = .ok (.getfield 44, 3) := by decide +kernel
theorem d_M_layOut_62 : decode prog_13_method_8_code 62 = .ok (.iload_n 3, 1) := by decide +kernel
theorem d_M_layOut_63 : decode prog_13_method_8_code 63 = .ok (.iload_n 2, 1) := by decide +kernel
theorem d_M_layOut_64 : decode prog_13_method_8_code 64 = .ok (.iastore, 1) := by decide +kernel
theorem d_M_layOut_65 : decode prog_13_method_8_code 65 = .ok (.aload_n 0, 1) := by decide +kernel
theorem d_M_layOut_66 : decode prog_13_method_8_code 66 = .ok (.getfield 47, 3) := by decide +kernel
theorem d_M_layOut_69 : decode prog_13_method_8_code 69 = .ok (.iload_n 3, 1) := by decide +kernel
theorem d_M_layOut_70 : decode prog_13_method_8_code 70 = .ok (.iload 4, 2) := by decide +kernel
theorem d_M_layOut_72 : decode prog_13_method_8_code 72 = .ok (.iastore, 1) := by decide +kernel
theorem d_M_layOut_73 : decode prog_13_method_8_code 73 = .ok (.aload_n 0, 1) := by decide +kernel
theorem d_M_layOut_74 : decode prog_13_method_8_code 74 = .ok (.iload_n 1, 1) := by decide +kernel
theorem d_M_layOut_75 : decode prog_13_method_8_code 75 = .ok (.putfield 104, 3) := by decide +kernel
theorem d_M_layOut_78 : decode prog_13_method_8_code 78 = .ok (.iload_n 3, 1) := by decide +kernel
theorem d_M_layOut_79 : decode prog_13_method_8_code 79 = .ok (.aload_n 0, 1) := by decide +kernel
theorem d_M_layOut_80 : decode prog_13_method_8_code 80 = .ok (.getfield 87, 3) := by decide +kernel
theorem d_M_layOut_83 : decode prog_13_method_8_code 83 = .ok (.if_icmp .ge 18, 3) := by decide +kernel
theorem d_M_layOut_86 : decode prog_13_method_8_code 86 = .ok (.aload_n 0, 1) := by decide +kernel
theorem d_M_layOut_87 : decode prog_13_method_8_code 87 = .ok (.getfield 7, 3) := by decide +kernel
theorem d_M_layOut_90 : decode prog_13_method_8_code 90 = .ok (.iload_n 3, 1) := by decide +kernel
theorem d_M_layOut_91 : decode prog_13_method_8_code 91 = .ok (.iaload, 1) := by decide +kernel
theorem d_M_layOut_92 : decode prog_13_method_8_code 92 = .ok (.bipush 10, 2) := by decide +kernel
theorem d_M_layOut_94 : decode prog_13_method_8_code 94 = .ok (.if_icmp .ne 7, 3) := by decide +kernel
theorem d_M_layOut_97 : decode prog_13_method_8_code 97 = .ok (.iconst 1, 1) := by decide +kernel
theorem d_M_layOut_98 : decode prog_13_method_8_code 98 = .ok (.goto 4, 3) := by decide +kernel
theorem d_M_layOut_101 : decode prog_13_method_8_code 101 = .ok (.iconst 0, 1) := by decide +kernel
theorem d_M_layOut_102 : decode prog_13_method_8_code 102 = .ok (.istore 5, 2) := by decide +kernel
theorem d_M_layOut_104 : decode prog_13_method_8_code 104 = .ok (.iload 5, 2) := by decide +kernel
theorem d_M_layOut_106 : decode prog_13_method_8_code 106 = .ok (.ifCond .eq 7, 3) := by decide +kernel
theorem d_M_layOut_109 : decode prog_13_method_8_code 109 = .ok (.iconst 0, 1) := by decide +kernel
theorem d_M_layOut_110 : decode prog_13_method_8_code 110 = .ok (.goto 7, 3) := by decide +kernel
theorem d_M_layOut_113 : decode prog_13_method_8_code 113 = .ok (.iload_n 2, 1) := by decide +kernel
theorem d_M_layOut_114 : decode prog_13_method_8_code 114 = .ok (.iload 4, 2) := by decide +kernel
theorem d_M_layOut_116 : decode prog_13_method_8_code 116 = .ok (.iadd, 1) := by decide +kernel
theorem d_M_layOut_117 : decode prog_13_method_8_code 117 = .ok (.istore_n 2, 1) := by decide +kernel
theorem d_M_layOut_118 : decode prog_13_method_8_code 118 = .ok (.iload 5, 2) := by decide +kernel
theorem d_M_layOut_120 : decode prog_13_method_8_code 120 = .ok (.ifCond .eq 9, 3) := by decide +kernel
theorem d_M_layOut_123 : decode prog_13_method_8_code 123 = .ok (.iload_n 1, 1) := by decide +kernel
theorem d_M_layOut_124 : decode prog_13_method_8_code 124 = .ok (.iconst 1, 1) := by decide +kernel
theorem d_M_layOut_125 : decode prog_13_method_8_code 125 = .ok (.iadd, 1) := by decide +kernel
theorem d_M_layOut_126 : decode prog_13_method_8_code 126 = .ok (.goto 4, 3) := by decide +kernel
theorem d_M_layOut_129 : decode prog_13_method_8_code 129 = .ok (.iload_n 1, 1) := by decide +kernel
theorem d_M_layOut_130 : decode prog_13_method_8_code 130 = .ok (.istore_n 1, 1) := by decide +kernel
theorem d_M_layOut_131 : decode prog_13_method_8_code 131 = .ok (.iload_n 3, 1) := by decide +kernel
theorem d_M_layOut_132 : decode prog_13_method_8_code 132 = .ok (.aload_n 0, 1) := by decide +kernel
theorem d_M_layOut_133 : decode prog_13_method_8_code 133 = .ok (.getfield 87, 3) := by decide +kernel
theorem d_M_layOut_136 : decode prog_13_method_8_code 136 = .ok (.if_icmp .ne 9, 3) := by decide +kernel
theorem d_M_layOut_139 : decode prog_13_method_8_code 139 = .ok (.iload_n 3, 1) := by decide +kernel
theorem d_M_layOut_140 : decode prog_13_method_8_code 140 = .ok (.iconst 1, 1) := by decide +kernel
theorem d_M_layOut_141 : decode prog_13_method_8_code 141 = .ok (.iadd, 1) := by decide +kernel
theorem d_M_layOut_142 : decode prog_13_method_8_code 142 = .ok (.goto 8, 3) := by decide +kernel
theorem d_M_layOut_145 : decode prog_13_method_8_code 145 = .ok (.aload_n 0, 1) := by decide +kernel
theorem d_M_layOut_146 : decode prog_13_method_8_code 146 = .ok (.iload_n 3, 1) := by decide +kernel
theorem d_M_layOut_147 : decode prog_13_method_8_code 147 = .ok (.invokevirtual 107, 3) := by decide +kernel
theorem d_M_layOut_150 : decode prog_13_method_8_code 150 = .ok (.istore_n 3, 1) := by decide +kernel
theorem d_M_layOut_151 : decode prog_13_method_8_code 151 = .ok (.goto (-145), 3) := by decide +kernel
theorem d_M_layOut_154 : decode prog_13_method_8_code 154 = .ok (.return_, 1) := by decide +kernel
theorem d_M_isSmall_0 : decode prog_13_method_9_code 0 = .ok (.aload_n 0, 1) := by decide +kernel
theorem d_M_isSmall_1 : decode prog_13_method_9_code 1 = .ok (.getfield 78, 3) := by decide +kernel
theorem d_M_isSmall_4 : decode prog_13_method_9_code 4 = .ok (.iconst 4, 1) := by decide +kernel
theorem d_M_isSmall_5 : decode prog_13_method_9_code 5 = .ok (.if_icmp .lt 11, 3) := by decide +kernel
theorem d_M_isSmall_8 : decode prog_13_method_9_code 8 = .ok (.aload_n 0, 1) := by decide +kernel
theorem d_M_isSmall_9 : decode prog_13_method_9_code 9 = .ok (.getfield 81, 3) := by decide +kernel
theorem d_M_isSmall_12 : decode prog_13_method_9_code 12 = .ok (.iconst 2, 1) := by decide +kernel
theorem d_M_isSmall_13 : decode prog_13_method_9_code 13 = .ok (.if_icmp .ge 7, 3) := by decide +kernel
theorem d_M_isSmall_16 : decode prog_13_method_9_code 16 = .ok (.iconst 1, 1) := by decide +kernel
theorem d_M_isSmall_17 : decode prog_13_method_9_code 17 = .ok (.goto 4, 3) := by decide +kernel
theorem d_M_isSmall_20 : decode prog_13_method_9_code 20 = .ok (.iconst 0, 1) := by decide +kernel
theorem d_M_isSmall_21 : decode prog_13_method_9_code 21 = .ok (.ireturn, 1) := by decide +kernel
theorem d_M_forgetFirst_0 : decode prog_13_method_10_code 0 = .ok (.iconst 1, 1) := by decide +kernel
theorem d_M_forgetFirst_1 : decode prog_13_method_10_code 1 = .ok (.istore_n 1, 1) := by decide +kernel
theorem d_M_forgetFirst_2 : decode prog_13_method_10_code 2 = .ok (.iload_n 1, 1) := by decide +kernel
theorem d_M_forgetFirst_3 : decode prog_13_method_10_code 3 = .ok (.bipush 12, 2) := by decide +kernel
theorem d_M_forgetFirst_5 : decode prog_13_method_10_code 5 = .ok (.if_icmp .ge 65, 3) := by decide +kernel
theorem d_M_forgetFirst_8 : decode prog_13_method_10_code 8 = .ok (.aload_n 0, 1) := by decide +kernel
theorem d_M_forgetFirst_9 : decode prog_13_method_10_code 9 = .ok (.getfield 23, 3) := by decide +kernel
theorem d_M_forgetFirst_12 : decode prog_13_method_10_code 12 = .ok (.iload_n 1, 1) := by decide +kernel
theorem d_M_forgetFirst_13 : decode prog_13_method_10_code 13 = .ok (.iconst 1, 1) := by decide +kernel
theorem d_M_forgetFirst_14 : decode prog_13_method_10_code 14 = .ok (.isub, 1) := by decide +kernel
theorem d_M_forgetFirst_15 : decode prog_13_method_10_code 15 = .ok (.aload_n 0, 1) := by decide +kernel
theorem d_M_forgetFirst_16 : decode prog_13_method_10_code 16 = .ok (.getfield 23, 3) := by decide +kernel
theorem d_M_forgetFirst_19 : decode prog_13_method_10_code 19 = .ok (.iload_n 1, 1) := by decide +kernel
theorem d_M_forgetFirst_20 : decode prog_13_method_10_code 20 = .ok (.iaload, 1) := by decide +kernel
theorem d_M_forgetFirst_21 : decode prog_13_method_10_code 21 = .ok (.iastore, 1) := by decide +kernel
theorem d_M_forgetFirst_22 : decode prog_13_method_10_code 22 = .ok (.aload_n 0, 1) := by decide +kernel
theorem d_M_forgetFirst_23 : decode prog_13_method_10_code 23 = .ok (.getfield 26, 3) := by decide +kernel
theorem d_M_forgetFirst_26 : decode prog_13_method_10_code 26 = .ok (.iload_n 1, 1) := by decide +kernel
theorem d_M_forgetFirst_27 : decode prog_13_method_10_code 27 = .ok (.iconst 1, 1) := by decide +kernel
theorem d_M_forgetFirst_28 : decode prog_13_method_10_code 28 = .ok (.isub, 1) := by decide +kernel
theorem d_M_forgetFirst_29 : decode prog_13_method_10_code 29 = .ok (.aload_n 0, 1) := by decide +kernel
theorem d_M_forgetFirst_30 : decode prog_13_method_10_code 30 = .ok (.getfield 26, 3) := by decide +kernel
theorem d_M_forgetFirst_33 : decode prog_13_method_10_code 33 = .ok (.iload_n 1, 1) := by decide +kernel
theorem d_M_forgetFirst_34 : decode prog_13_method_10_code 34 = .ok (.iaload, 1) := by decide +kernel
theorem d_M_forgetFirst_35 : decode prog_13_method_10_code 35 = .ok (.iastore, 1) := by decide +kernel
theorem d_M_forgetFirst_36 : decode prog_13_method_10_code 36 = .ok (.aload_n 0, 1) := by decide +kernel
theorem d_M_forgetFirst_37 : decode prog_13_method_10_code 37 = .ok (.getfield 29, 3) := by decide +kernel
theorem d_M_forgetFirst_40 : decode prog_13_method_10_code 40 = .ok (.iload_n 1, 1) := by decide +kernel
theorem d_M_forgetFirst_41 : decode prog_13_method_10_code 41 = .ok (.iconst 1, 1) := by decide +kernel
theorem d_M_forgetFirst_42 : decode prog_13_method_10_code 42 = .ok (.isub, 1) := by decide +kernel
theorem d_M_forgetFirst_43 : decode prog_13_method_10_code 43 = .ok (.aload_n 0, 1) := by decide +kernel
theorem d_M_forgetFirst_44 : decode prog_13_method_10_code 44 = .ok (.getfield 29, 3) := by decide +kernel
theorem d_M_forgetFirst_47 : decode prog_13_method_10_code 47 = .ok (.iload_n 1, 1) := by decide +kernel
theorem d_M_forgetFirst_48 : decode prog_13_method_10_code 48 = .ok (.iaload, 1) := by decide +kernel
theorem d_M_forgetFirst_49 : decode prog_13_method_10_code 49 = .ok (.iastore, 1) := by decide +kernel
theorem d_M_forgetFirst_50 : decode prog_13_method_10_code 50 = .ok (.aload_n 0, 1) := by decide +kernel
theorem d_M_forgetFirst_51 : decode prog_13_method_10_code 51 = .ok (.getfield 32, 3) := by decide +kernel
theorem d_M_forgetFirst_54 : decode prog_13_method_10_code 54 = .ok (.iload_n 1, 1) := by decide +kernel
theorem d_M_forgetFirst_55 : decode prog_13_method_10_code 55 = .ok (.iconst 1, 1) := by decide +kernel
theorem d_M_forgetFirst_56 : decode prog_13_method_10_code 56 = .ok (.isub, 1) := by decide +kernel
theorem d_M_forgetFirst_57 : decode prog_13_method_10_code 57 = .ok (.aload_n 0, 1) := by decide +kernel
theorem d_M_forgetFirst_58 : decode prog_13_method_10_code 58 = .ok (.getfield 32, 3) := by decide +kernel
theorem d_M_forgetFirst_61 : decode prog_13_method_10_code 61 = .ok (.iload_n 1, 1) := by decide +kernel
theorem d_M_forgetFirst_62 : decode prog_13_method_10_code 62 = .ok (.iaload, 1) := by decide +kernel
theorem d_M_forgetFirst_63 : decode prog_13_method_10_code 63 = .ok (.iastore, 1) := by decide +kernel
theorem d_M_forgetFirst_64 : decode prog_13_method_10_code 64 = .ok (.iinc 1 1, 3) := by decide +kernel
theorem d_M_forgetFirst_67 : decode prog_13_method_10_code 67 = .ok (.goto (-65), 3) := by decide +kernel
theorem d_M_forgetFirst_70 : decode prog_13_method_10_code 70 = .ok (.sipush 200, 3) := by decide +kernel
theorem d_M_forgetFirst_73 : decode prog_13_method_10_code 73 = .ok (.istore_n 1, 1) := by decide +kernel
theorem d_M_forgetFirst_74 : decode prog_13_method_10_code 74 = .ok (.iload_n 1, 1) := by decide +kernel
theorem d_M_forgetFirst_75 : decode prog_13_method_10_code 75 = .ok (.sipush 2400, 3) := by decide +kernel
theorem d_M_forgetFirst_78 : decode prog_13_method_10_code 78 = .ok (.if_icmp .ge 25, 3) := by decide +kernel
theorem d_M_forgetFirst_81 : decode prog_13_method_10_code 81 = .ok (.aload_n 0, 1) := by decide +kernel
theorem d_M_forgetFirst_82 : decode prog_13_method_10_code 82 = .ok (.getfield 35, 3) := by decide +kernel
theorem d_M_forgetFirst_85 : decode prog_13_method_10_code 85 = .ok (.iload_n 1, 1) := by decide +kernel
theorem d_M_forgetFirst_86 : decode prog_13_method_10_code 86 = .ok (.sipush 200, 3) := by decide +kernel
theorem d_M_forgetFirst_89 : decode prog_13_method_10_code 89 = .ok (.isub, 1) := by decide +kernel
theorem d_M_forgetFirst_90 : decode prog_13_method_10_code 90 = .ok (.aload_n 0, 1) := by decide +kernel
theorem d_M_forgetFirst_91 : decode prog_13_method_10_code 91 = .ok (.getfield 35, 3) := by decide +kernel
theorem d_M_forgetFirst_94 : decode prog_13_method_10_code 94 = .ok (.iload_n 1, 1) := by decide +kernel
theorem d_M_forgetFirst_95 : decode prog_13_method_10_code 95 = .ok (.iaload, 1) := by decide +kernel
theorem d_M_forgetFirst_96 : decode prog_13_method_10_code 96 = .ok (.iastore, 1) := by decide +kernel
theorem d_M_forgetFirst_97 : decode prog_13_method_10_code 97 = .ok (.iinc 1 1, 3) := by decide +kernel
theorem d_M_forgetFirst_100 : decode prog_13_method_10_code 100 = .ok (.goto (-26), 3) := by decide +kernel
theorem d_M_forgetFirst_103 : decode prog_13_method_10_code 103 = .ok (.aload_n 0, 1) := by decide +kernel
theorem d_M_forgetFirst_104 : decode prog_13_method_10_code 104 = .ok (.bipush 11, 2) := by decide +kernel
theorem d_M_forgetFirst_106 : decode prog_13_method_10_code 106 = .ok (.putfield 111, 3) := by decide +kernel
theorem d_M_forgetFirst_109 : decode prog_13_method_10_code 109 = .ok (.return_, 1) := by decide +kernel
theorem d_M_open_0 : decode prog_13_method_11_code 0 = .ok (.aload_n 0, 1) := by decide +kernel
theorem d_M_open_1 : decode prog_13_method_11_code 1 = .ok (.getfield 87, 3) := by decide +kernel
theorem d_M_open_4 : decode prog_13_method_11_code 4 = .ok (.iconst 1, 1) := by decide +kernel
theorem d_M_open_5 : decode prog_13_method_11_code 5 = .ok (.isub, 1) := by decide +kernel
theorem d_M_open_6 : decode prog_13_method_11_code 6 = .ok (.istore_n 3, 1) := by decide +kernel
theorem d_M_open_7 : decode prog_13_method_11_code 7 = .ok (.iload_n 3, 1) := by decide +kernel
theorem d_M_open_8 : decode prog_13_method_11_code 8 = .ok (.iload_n 1, 1) := by decide +kernel
theorem d_M_open_9 : decode prog_13_method_11_code 9 = .ok (.if_icmp .lt 23, 3) := by decide +kernel
theorem d_M_open_12 : decode prog_13_method_11_code 12 = .ok (.aload_n 0, 1) := by decide +kernel
theorem d_M_open_13 : decode prog_13_method_11_code 13 = .ok (.getfield 7, 3) := by decide +kernel
theorem d_M_open_16 : decode prog_13_method_11_code 16 = .ok (.iload_n 3, 1) := by decide +kernel
theorem d_M_open_17 : decode prog_13_method_11_code 17 = .ok (.iload_n 2, 1) := by decide +kernel
theorem d_M_open_18 : decode prog_13_method_11_code 18 = .ok (.iadd, 1) := by decide +kernel
theorem d_M_open_19 : decode prog_13_method_11_code 19 = .ok (.aload_n 0, 1) := by decide +kernel
theorem d_M_open_20 : decode prog_13_method_11_code 20 = .ok (.getfield 7, 3) := by decide +kernel
theorem d_M_open_23 : decode prog_13_method_11_code 23 = .ok (.iload_n 3, 1) := by decide +kernel
theorem d_M_open_24 : decode prog_13_method_11_code 24 = .ok (.iaload, 1) := by decide +kernel
theorem d_M_open_25 : decode prog_13_method_11_code 25 = .ok (.iastore, 1) := by decide +kernel
theorem d_M_open_26 : decode prog_13_method_11_code 26 = .ok (.iinc 3 (-1), 3) := by decide +kernel
theorem d_M_open_29 : decode prog_13_method_11_code 29 = .ok (.goto (-22), 3) := by decide +kernel
theorem d_M_open_32 : decode prog_13_method_11_code 32 = .ok (.aload_n 0, 1) := by decide +kernel
theorem d_M_open_33 : decode prog_13_method_11_code 33 = .ok (.dup, 1) := by decide +kernel
theorem d_M_open_34 : decode prog_13_method_11_code 34 = .ok (.getfield 87, 3) := by decide +kernel
theorem d_M_open_37 : decode prog_13_method_11_code 37 = .ok (.iload_n 2, 1) := by decide +kernel
theorem d_M_open_38 : decode prog_13_method_11_code 38 = .ok (.iadd, 1) := by decide +kernel
theorem d_M_open_39 : decode prog_13_method_11_code 39 = .ok (.putfield 87, 3) := by decide +kernel
theorem d_M_open_42 : decode prog_13_method_11_code 42 = .ok (.return_, 1) := by decide +kernel
theorem d_M_close_0 : decode prog_13_method_12_code 0 = .ok (.iload_n 1, 1) := by decide +kernel
theorem d_M_close_1 : decode prog_13_method_12_code 1 = .ok (.istore_n 3, 1) := by decide +kernel
theorem d_M_close_2 : decode prog_13_method_12_code 2 = .ok (.iload_n 3, 1) := by decide +kernel
theorem d_M_close_3 : decode prog_13_method_12_code 3 = .ok (.iload_n 2, 1) := by decide +kernel
theorem d_M_close_4 : decode prog_13_method_12_code 4 = .ok (.iadd, 1) := by decide +kernel
theorem d_M_close_5 : decode prog_13_method_12_code 5 = .ok (.aload_n 0, 1) := by decide +kernel
theorem d_M_close_6 : decode prog_13_method_12_code 6 = .ok (.getfield 87, 3) := by decide +kernel
theorem d_M_close_9 : decode prog_13_method_12_code 9 = .ok (.if_icmp .ge 23, 3) := by decide +kernel
theorem d_M_close_12 : decode prog_13_method_12_code 12 = .ok (.aload_n 0, 1) := by decide +kernel
theorem d_M_close_13 : decode prog_13_method_12_code 13 = .ok (.getfield 7, 3) := by decide +kernel
theorem d_M_close_16 : decode prog_13_method_12_code 16 = .ok (.iload_n 3, 1) := by decide +kernel
theorem d_M_close_17 : decode prog_13_method_12_code 17 = .ok (.aload_n 0, 1) := by decide +kernel
theorem d_M_close_18 : decode prog_13_method_12_code 18 = .ok (.getfield 7, 3) := by decide +kernel
theorem d_M_close_21 : decode prog_13_method_12_code 21 = .ok (.iload_n 3, 1) := by decide +kernel
theorem d_M_close_22 : decode prog_13_method_12_code 22 = .ok (.iload_n 2, 1) := by decide +kernel
theorem d_M_close_23 : decode prog_13_method_12_code 23 = .ok (.iadd, 1) := by decide +kernel
theorem d_M_close_24 : decode prog_13_method_12_code 24 = .ok (.iaload, 1) := by decide +kernel
theorem d_M_close_25 : decode prog_13_method_12_code 25 = .ok (.iastore, 1) := by decide +kernel
theorem d_M_close_26 : decode prog_13_method_12_code 26 = .ok (.iinc 3 1, 3) := by decide +kernel
theorem d_M_close_29 : decode prog_13_method_12_code 29 = .ok (.goto (-27), 3) := by decide +kernel
theorem d_M_close_32 : decode prog_13_method_12_code 32 = .ok (.aload_n 0, 1) := by decide +kernel
theorem d_M_close_33 : decode prog_13_method_12_code 33 = .ok (.dup, 1) := by decide +kernel
theorem d_M_close_34 : decode prog_13_method_12_code 34 = .ok (.getfield 87, 3) := by decide +kernel
theorem d_M_close_37 : decode prog_13_method_12_code 37 = .ok (.iload_n 2, 1) := by decide +kernel
theorem d_M_close_38 : decode prog_13_method_12_code 38 = .ok (.isub, 1) := by decide +kernel
theorem d_M_close_39 : decode prog_13_method_12_code 39 = .ok (.putfield 87, 3) := by decide +kernel
theorem d_M_close_42 : decode prog_13_method_12_code 42 = .ok (.return_, 1) := by decide +kernel
theorem d_M_note_0 : decode prog_13_method_13_code 0 = .ok (.aload_n 0, 1) := by decide +kernel
theorem d_M_note_1 : decode prog_13_method_13_code 1 = .ok (.getfield 111, 3) := by decide +kernel
theorem d_M_note_4 : decode prog_13_method_13_code 4 = .ok (.bipush 12, 2) := by decide +kernel
theorem d_M_note_6 : decode prog_13_method_13_code 6 = .ok (.if_icmp .ne 7, 3) := by decide +kernel
theorem d_M_note_9 : decode prog_13_method_13_code 9 = .ok (.aload_n 0, 1) := by decide +kernel
theorem d_M_note_10 : decode prog_13_method_13_code 10 = .ok (.invokevirtual 114, 3) := by decide +kernel
theorem d_M_note_13 : decode prog_13_method_13_code 13 = .ok (.aload_n 0, 1) := by decide +kernel
theorem d_M_note_14 : decode prog_13_method_13_code 14 = .ok (.getfield 23, 3) := by decide +kernel
theorem d_M_note_17 : decode prog_13_method_13_code 17 = .ok (.aload_n 0, 1) := by decide +kernel
theorem d_M_note_18 : decode prog_13_method_13_code 18 = .ok (.getfield 111, 3) := by decide +kernel
theorem d_M_note_21 : decode prog_13_method_13_code 21 = .ok (.iload_n 1, 1) := by decide +kernel
theorem d_M_note_22 : decode prog_13_method_13_code 22 = .ok (.iastore, 1) := by decide +kernel
theorem d_M_note_23 : decode prog_13_method_13_code 23 = .ok (.aload_n 0, 1) := by decide +kernel
theorem d_M_note_24 : decode prog_13_method_13_code 24 = .ok (.getfield 26, 3) := by decide +kernel
theorem d_M_note_27 : decode prog_13_method_13_code 27 = .ok (.aload_n 0, 1) := by decide +kernel
theorem d_M_note_28 : decode prog_13_method_13_code 28 = .ok (.getfield 111, 3) := by decide +kernel
theorem d_M_note_31 : decode prog_13_method_13_code 31 = .ok (.iload_n 2, 1) := by decide +kernel
theorem d_M_note_32 : decode prog_13_method_13_code 32 = .ok (.iastore, 1) := by decide +kernel
theorem d_M_note_33 : decode prog_13_method_13_code 33 = .ok (.aload_n 0, 1) := by decide +kernel
theorem d_M_note_34 : decode prog_13_method_13_code 34 = .ok (.getfield 29, 3) := by decide +kernel
theorem d_M_note_37 : decode prog_13_method_13_code 37 = .ok (.aload_n 0, 1) := by decide +kernel
theorem d_M_note_38 : decode prog_13_method_13_code 38 = .ok (.getfield 111, 3) := by decide +kernel
theorem d_M_note_41 : decode prog_13_method_13_code 41 = .ok (.iload_n 3, 1) := by decide +kernel
theorem d_M_note_42 : decode prog_13_method_13_code 42 = .ok (.iastore, 1) := by decide +kernel
theorem d_M_note_43 : decode prog_13_method_13_code 43 = .ok (.aload_n 0, 1) := by decide +kernel
theorem d_M_note_44 : decode prog_13_method_13_code 44 = .ok (.getfield 32, 3) := by decide +kernel
theorem d_M_note_47 : decode prog_13_method_13_code 47 = .ok (.aload_n 0, 1) := by decide +kernel
theorem d_M_note_48 : decode prog_13_method_13_code 48 = .ok (.getfield 111, 3) := by decide +kernel
theorem d_M_note_51 : decode prog_13_method_13_code 51 = .ok (.aload_n 0, 1) := by decide +kernel
theorem d_M_note_52 : decode prog_13_method_13_code 52 = .ok (.getfield 117, 3) := by decide +kernel
theorem d_M_note_55 : decode prog_13_method_13_code 55 = .ok (.iastore, 1) := by decide +kernel
theorem d_M_note_56 : decode prog_13_method_13_code 56 = .ok (.iconst 0, 1) := by decide +kernel
theorem d_M_note_57 : decode prog_13_method_13_code 57 = .ok (.istore 4, 2) := by decide +kernel
theorem d_M_note_59 : decode prog_13_method_13_code 59 = .ok (.iload 4, 2) := by decide +kernel
theorem d_M_note_61 : decode prog_13_method_13_code 61 = .ok (.iload_n 3, 1) := by decide +kernel
theorem d_M_note_62 : decode prog_13_method_13_code 62 = .ok (.if_icmp .ge 34, 3) := by decide +kernel
theorem d_M_note_65 : decode prog_13_method_13_code 65 = .ok (.aload_n 0, 1) := by decide +kernel
theorem d_M_note_66 : decode prog_13_method_13_code 66 = .ok (.getfield 35, 3) := by decide +kernel
theorem d_M_note_69 : decode prog_13_method_13_code 69 = .ok (.sipush 200, 3) := by decide +kernel
theorem d_M_note_72 : decode prog_13_method_13_code 72 = .ok (.aload_n 0, 1) := by decide +kernel
theorem d_M_note_73 : decode prog_13_method_13_code 73 = .ok (.getfield 111, 3) := by decide +kernel
theorem d_M_note_76 : decode prog_13_method_13_code 76 = .ok (.imul, 1) := by decide +kernel
theorem d_M_note_77 : decode prog_13_method_13_code 77 = .ok (.iload 4, 2) := by decide +kernel
theorem d_M_note_79 : decode prog_13_method_13_code 79 = .ok (.iadd, 1) := by decide +kernel
theorem d_M_note_80 : decode prog_13_method_13_code 80 = .ok (.aload_n 0, 1) := by decide +kernel
theorem d_M_note_81 : decode prog_13_method_13_code 81 = .ok (.getfield 7, 3) := by decide +kernel
theorem d_M_note_84 : decode prog_13_method_13_code 84 = .ok (.iload_n 1, 1) := by decide +kernel
theorem d_M_note_85 : decode prog_13_method_13_code 85 = .ok (.iload 4, 2) := by decide +kernel
theorem d_M_note_87 : decode prog_13_method_13_code 87 = .ok (.iadd, 1) := by decide +kernel
theorem d_M_note_88 : decode prog_13_method_13_code 88 = .ok (.iaload, 1) := by decide +kernel
theorem d_M_note_89 : decode prog_13_method_13_code 89 = .ok (.iastore, 1) := by decide +kernel
theorem d_M_note_90 : decode prog_13_method_13_code 90 = .ok (.iinc 4 1, 3) := by decide +kernel
theorem d_M_note_93 : decode prog_13_method_13_code 93 = .ok (.goto (-34), 3) := by decide +kernel
theorem d_M_note_96 : decode prog_13_method_13_code 96 = .ok (.aload_n 0, 1) := by decide +kernel
theorem d_M_note_97 : decode prog_13_method_13_code 97 = .ok (.dup, 1) := by decide +kernel
theorem d_M_note_98 : decode prog_13_method_13_code 98 = .ok (.getfield 111, 3) := by decide +kernel
theorem d_M_note_101 : decode prog_13_method_13_code 101 = .ok (.iconst 1, 1) := by decide +kernel
theorem d_M_note_102 : decode prog_13_method_13_code 102 = .ok (.iadd, 1) := by decide +kernel
theorem d_M_note_103 : decode prog_13_method_13_code 103 = .ok (.putfield 111, 3) := by decide +kernel
theorem d_M_note_106 : decode prog_13_method_13_code 106 = .ok (.aload_n 0, 1) := by decide +kernel
theorem d_M_note_107 : decode prog_13_method_13_code 107 = .ok (.iconst (-1), 1) := by decide +kernel
theorem d_M_note_108 : decode prog_13_method_13_code 108 = .ok (.putfield 13, 3) := by decide +kernel
theorem d_M_note_111 : decode prog_13_method_13_code 111 = .ok (.return_, 1) := by decide +kernel
theorem d_M_settle_0 : decode prog_13_method_14_code 0 = .ok (.aload_n 0, 1) := by decide +kernel
theorem d_M_settle_1 : decode prog_13_method_14_code 1 = .ok (.iload_n 1, 1) := by decide +kernel
theorem d_M_settle_2 : decode prog_13_method_14_code 2 = .ok (.putfield 117, 3) := by decide +kernel
theorem d_M_settle_5 : decode prog_13_method_14_code 5 = .ok (.aload_n 0, 1) := by decide +kernel
theorem d_M_settle_6 : decode prog_13_method_14_code 6 = .ok (.aload_n 0, 1) := by decide +kernel
theorem d_M_settle_7 : decode prog_13_method_14_code 7 = .ok (.getfield 117, 3) := by decide +kernel
theorem d_M_settle_10 : decode prog_13_method_14_code 10 = .ok (.invokevirtual 94, 3) := by decide +kernel
theorem d_M_settle_13 : decode prog_13_method_14_code 13 = .ok (.ifCond .ne 16, 3) := by decide +kernel
theorem d_M_settle_16 : decode prog_13_method_14_code 16 = .ok (.aload_n 0, 1) := by decide +kernel
theorem d_M_settle_17 : decode prog_13_method_14_code 17 = .ok (.dup, 1) := by decide +kernel
theorem d_M_settle_18 : decode prog_13_method_14_code 18 = .ok (.getfield 117, 3) := by decide +kernel
theorem d_M_settle_21 : decode prog_13_method_14_code 21 = .ok (.iconst 1, 1) := by decide +kernel
theorem d_M_settle_22 : decode prog_13_method_14_code 22 = .ok (.iadd, 1) := by decide +kernel
theorem d_M_settle_23 : decode prog_13_method_14_code 23 = .ok (.putfield 117, 3) := by decide +kernel
theorem d_M_settle_26 : decode prog_13_method_14_code 26 = .ok (.goto (-21), 3) := by decide +kernel
theorem d_M_settle_29 : decode prog_13_method_14_code 29 = .ok (.return_, 1) := by decide +kernel
theorem d_M_insertOne_0 : decode prog_13_method_15_code 0 = .ok (.aload_n 0, 1) := by decide +kernel
theorem d_M_insertOne_1 : decode prog_13_method_15_code 1 = .ok (.getfield 87, 3) := by decide +kernel
theorem d_M_insertOne_4 : decode prog_13_method_15_code 4 = .ok (.sipush 200, 3) := by decide +kernel
theorem d_M_insertOne_7 : decode prog_13_method_15_code 7 = .ok (.if_icmp .ne 4, 3) := by decide +kernel
theorem d_M_insertOne_10 : decode prog_13_method_15_code 10 = .ok (.return_, 1) := by decide +kernel
theorem d_M_insertOne_11 : decode prog_13_method_15_code 11 = .ok (.aload_n 0, 1) := by decide +kernel
theorem d_M_insertOne_12 : decode prog_13_method_15_code 12 = .ok (.aload_n 0, 1) := by decide +kernel
theorem d_M_insertOne_13 : decode prog_13_method_15_code 13 = .ok (.getfield 117, 3) := by decide +kernel
theorem d_M_insertOne_16 : decode prog_13_method_15_code 16 = .ok (.iconst 1, 1) := by decide +kernel
theorem d_M_insertOne_17 : decode prog_13_method_15_code 17 = .ok (.iconst 0, 1) := by decide +kernel
theorem d_M_insertOne_18 : decode prog_13_method_15_code 18 = .ok (.invokevirtual 120, 3) := by decide +kernel
theorem d_M_insertOne_21 : decode prog_13_method_15_code 21 = .ok (.aload_n 0, 1) := by decide +kernel
theorem d_M_insertOne_22 : decode prog_13_method_15_code 22 = .ok (.aload_n 0, 1) := by decide +kernel
theorem d_M_insertOne_23 : decode prog_13_method_15_code 23 = .ok (.getfield 117, 3) := by decide +kernel
theorem d_M_insertOne_26 : decode prog_13_method_15_code 26 = .ok (.iconst 1, 1) := by decide +kernel
theorem d_M_insertOne_27 : decode prog_13_method_15_code 27 = .ok (.invokevirtual 124, 3) := by decide +kernel
theorem d_M_insertOne_30 : decode prog_13_method_15_code 30 = .ok (.aload_n 0, 1) := by decide +kernel
theorem d_M_insertOne_31 : decode prog_13_method_15_code 31 = .ok (.getfield 7, 3) := by decide +kernel
theorem d_M_insertOne_34 : decode prog_13_method_15_code 34 = .ok (.aload_n 0, 1) := by decide +kernel
theorem d_M_insertOne_35 : decode prog_13_method_15_code 35 = .ok (.getfield 117, 3) := by decide +kernel
theorem d_M_insertOne_38 : decode prog_13_method_15_code 38 = .ok (.iload_n 1, 1) := by decide +kernel
theorem d_M_insertOne_39 : decode prog_13_method_15_code 39 = .ok (.iastore, 1) := by decide +kernel
theorem d_M_insertOne_40 : decode prog_13_method_15_code 40 = .ok (.aload_n 0, 1) := by decide +kernel
theorem d_M_insertOne_41 : decode prog_13_method_15_code 41 = .ok (.aload_n 0, 1) := by decide +kernel
theorem d_M_insertOne_42 : decode prog_13_method_15_code 42 = .ok (.getfield 117, 3) := by decide +kernel
theorem d_M_insertOne_45 : decode prog_13_method_15_code 45 = .ok (.iconst 1, 1) := by decide +kernel
theorem d_M_insertOne_46 : decode prog_13_method_15_code 46 = .ok (.iadd, 1) := by decide +kernel
theorem d_M_insertOne_47 : decode prog_13_method_15_code 47 = .ok (.invokevirtual 128, 3) := by decide +kernel
theorem d_M_insertOne_50 : decode prog_13_method_15_code 50 = .ok (.return_, 1) := by decide +kernel
theorem d_M_insertClip_0 : decode prog_13_method_16_code 0 = .ok (.aload_n 0, 1) := by decide +kernel
theorem d_M_insertClip_1 : decode prog_13_method_16_code 1 = .ok (.getfield 132, 3) := by decide +kernel
theorem d_M_insertClip_4 : decode prog_13_method_16_code 4 = .ok (.ifCond .eq 18, 3) := by decide +kernel
theorem d_M_insertClip_7 : decode prog_13_method_16_code 7 = .ok (.aload_n 0, 1) := by decide +kernel
theorem d_M_insertClip_8 : decode prog_13_method_16_code 8 = .ok (.getfield 87, 3) := by decide +kernel
theorem d_M_insertClip_11 : decode prog_13_method_16_code 11 = .ok (.aload_n 0, 1) := by decide +kernel
theorem d_M_insertClip_12 : decode prog_13_method_16_code 12 = .ok (.getfield 132, 3) := by decide +kernel
theorem d_M_insertClip_15 : decode prog_13_method_16_code 15 = .ok (.iadd, 1) := by decide +kernel
theorem d_M_insertClip_16 : decode prog_13_method_16_code 16 = .ok (.sipush 200, 3) := by decide +kernel
theorem d_M_insertClip_19 : decode prog_13_method_16_code 19 = .ok (.if_icmp .le 4, 3) := by decide +kernel
theorem d_M_insertClip_22 : decode prog_13_method_16_code 22 = .ok (.return_, 1) := by decide +kernel
theorem d_M_insertClip_23 : decode prog_13_method_16_code 23 = .ok (.aload_n 0, 1) := by decide +kernel
theorem d_M_insertClip_24 : decode prog_13_method_16_code 24 = .ok (.aload_n 0, 1) := by decide +kernel
theorem d_M_insertClip_25 : decode prog_13_method_16_code 25 = .ok (.getfield 117, 3) := by decide +kernel
theorem d_M_insertClip_28 : decode prog_13_method_16_code 28 = .ok (.aload_n 0, 1) := by decide +kernel
theorem d_M_insertClip_29 : decode prog_13_method_16_code 29 = .ok (.getfield 132, 3) := by decide +kernel
theorem d_M_insertClip_32 : decode prog_13_method_16_code 32 = .ok (.iconst 0, 1) := by decide +kernel
theorem d_M_insertClip_33 : decode prog_13_method_16_code 33 = .ok (.invokevirtual 120, 3) := by decide +kernel
theorem d_M_insertClip_36 : decode prog_13_method_16_code 36 = .ok (.aload_n 0, 1) := by decide +kernel
theorem d_M_insertClip_37 : decode prog_13_method_16_code 37 = .ok (.aload_n 0, 1) := by decide +kernel
theorem d_M_insertClip_38 : decode prog_13_method_16_code 38 = .ok (.getfield 117, 3) := by decide +kernel
theorem d_M_insertClip_41 : decode prog_13_method_16_code 41 = .ok (.aload_n 0, 1) := by decide +kernel
theorem d_M_insertClip_42 : decode prog_13_method_16_code 42 = .ok (.getfield 132, 3) := by decide +kernel
theorem d_M_insertClip_45 : decode prog_13_method_16_code 45 = .ok (.invokevirtual 124, 3) := by decide +kernel
theorem d_M_insertClip_48 : decode prog_13_method_16_code 48 = .ok (.iconst 0, 1) := by decide +kernel
theorem d_M_insertClip_49 : decode prog_13_method_16_code 49 = .ok (.istore_n 1, 1) := by decide +kernel
theorem d_M_insertClip_50 : decode prog_13_method_16_code 50 = .ok (.iload_n 1, 1) := by decide +kernel
theorem d_M_insertClip_51 : decode prog_13_method_16_code 51 = .ok (.aload_n 0, 1) := by decide +kernel
theorem d_M_insertClip_52 : decode prog_13_method_16_code 52 = .ok (.getfield 132, 3) := by decide +kernel
theorem d_M_insertClip_55 : decode prog_13_method_16_code 55 = .ok (.if_icmp .ge 26, 3) := by decide +kernel
theorem d_M_insertClip_58 : decode prog_13_method_16_code 58 = .ok (.aload_n 0, 1) := by decide +kernel
theorem d_M_insertClip_59 : decode prog_13_method_16_code 59 = .ok (.getfield 7, 3) := by decide +kernel
theorem d_M_insertClip_62 : decode prog_13_method_16_code 62 = .ok (.aload_n 0, 1) := by decide +kernel
theorem d_M_insertClip_63 : decode prog_13_method_16_code 63 = .ok (.getfield 117, 3) := by decide +kernel
theorem d_M_insertClip_66 : decode prog_13_method_16_code 66 = .ok (.iload_n 1, 1) := by decide +kernel
theorem d_M_insertClip_67 : decode prog_13_method_16_code 67 = .ok (.iadd, 1) := by decide +kernel
theorem d_M_insertClip_68 : decode prog_13_method_16_code 68 = .ok (.aload_n 0, 1) := by decide +kernel
theorem d_M_insertClip_69 : decode prog_13_method_16_code 69 = .ok (.getfield 17, 3) := by decide +kernel
theorem d_M_insertClip_72 : decode prog_13_method_16_code 72 = .ok (.iload_n 1, 1) := by decide +kernel
theorem d_M_insertClip_73 : decode prog_13_method_16_code 73 = .ok (.iaload, 1) := by decide +kernel
theorem d_M_insertClip_74 : decode prog_13_method_16_code 74 = .ok (.iastore, 1) := by decide +kernel
theorem d_M_insertClip_75 : decode prog_13_method_16_code 75 = .ok (.iinc 1 1, 3) := by decide +kernel
theorem d_M_insertClip_78 : decode prog_13_method_16_code 78 = .ok (.goto (-28), 3) := by decide +kernel
theorem d_M_insertClip_81 : decode prog_13_method_16_code 81 = .ok (.aload_n 0, 1) := by decide +kernel
theorem d_M_insertClip_82 : decode prog_13_method_16_code 82 = .ok (.aload_n 0, 1) := by decide +kernel
theorem d_M_insertClip_83 : decode prog_13_method_16_code 83 = .ok (.getfield 117, 3) := by decide +kernel
theorem d_M_insertClip_86 : decode prog_13_method_16_code 86 = .ok (.aload_n 0, 1) := by decide +kernel
theorem d_M_insertClip_87 : decode prog_13_method_16_code 87 = .ok (.getfield 132, 3) := by decide +kernel
theorem d_M_insertClip_90 : decode prog_13_method_16_code 90 = .ok (.iadd, 1) := by decide +kernel
theorem d_M_insertClip_91 : decode prog_13_method_16_code 91 = .ok (.invokevirtual 128, 3) := by decide +kernel
theorem d_M_insertClip_94 : decode prog_13_method_16_code 94 = .ok (.return_, 1) := by decide +kernel
theorem d_M_takeAway_0 : decode prog_13_method_17_code 0 = .ok (.iload_n 1, 1) := by decide +kernel
theorem d_M_takeAway_1 : decode prog_13_method_17_code 1 = .ok (.iload_n 2, 1) := by decide +kernel
theorem d_M_takeAway_2 : decode prog_13_method_17_code 2 = .ok (.if_icmp .ne 4, 3) := by decide +kernel
theorem d_M_takeAway_5 : decode prog_13_method_17_code 5 = .ok (.return_, 1) := by decide +kernel
theorem d_M_takeAway_6 : decode prog_13_method_17_code 6 = .ok (.aload_n 0, 1) := by decide +kernel
theorem d_M_takeAway_7 : decode prog_13_method_17_code 7 = .ok (.iload_n 1, 1) := by decide +kernel
theorem d_M_takeAway_8 : decode prog_13_method_17_code 8 = .ok (.iconst 0, 1) := by decide +kernel
theorem d_M_takeAway_9 : decode prog_13_method_17_code 9 = .ok (.iload_n 2, 1) := by decide +kernel
theorem d_M_takeAway_10 : decode prog_13_method_17_code 10 = .ok (.iload_n 1, 1) := by decide +kernel
theorem d_M_takeAway_11 : decode prog_13_method_17_code 11 = .ok (.isub, 1) := by decide +kernel
theorem d_M_takeAway_12 : decode prog_13_method_17_code 12 = .ok (.invokevirtual 120, 3) := by decide +kernel
theorem d_M_takeAway_15 : decode prog_13_method_17_code 15 = .ok (.aload_n 0, 1) := by decide +kernel
theorem d_M_takeAway_16 : decode prog_13_method_17_code 16 = .ok (.iload_n 1, 1) := by decide +kernel
theorem d_M_takeAway_17 : decode prog_13_method_17_code 17 = .ok (.iload_n 2, 1) := by decide +kernel
theorem d_M_takeAway_18 : decode prog_13_method_17_code 18 = .ok (.iload_n 1, 1) := by decide +kernel
theorem d_M_takeAway_19 : decode prog_13_method_17_code 19 = .ok (.isub, 1) := by decide +kernel
theorem d_M_takeAway_20 : decode prog_13_method_17_code 20 = .ok (.invokevirtual 135, 3) := by decide +kernel
theorem d_M_takeAway_23 : decode prog_13_method_17_code 23 = .ok (.aload_n 0, 1) := by decide +kernel
theorem d_M_takeAway_24 : decode prog_13_method_17_code 24 = .ok (.iload_n 1, 1) := by decide +kernel
theorem d_M_takeAway_25 : decode prog_13_method_17_code 25 = .ok (.invokevirtual 128, 3) := by decide +kernel
theorem d_M_takeAway_28 : decode prog_13_method_17_code 28 = .ok (.return_, 1) := by decide +kernel
theorem d_M_cutOut_0 : decode prog_13_method_18_code 0 = .ok (.aload_n 0, 1) := by decide +kernel
theorem d_M_cutOut_1 : decode prog_13_method_18_code 1 = .ok (.getfield 13, 3) := by decide +kernel
theorem d_M_cutOut_4 : decode prog_13_method_18_code 4 = .ok (.ifCond .lt 14, 3) := by decide +kernel
theorem d_M_cutOut_7 : decode prog_13_method_18_code 7 = .ok (.aload_n 0, 1) := by decide +kernel
theorem d_M_cutOut_8 : decode prog_13_method_18_code 8 = .ok (.getfield 13, 3) := by decide +kernel
theorem d_M_cutOut_11 : decode prog_13_method_18_code 11 = .ok (.aload_n 0, 1) := by decide +kernel
theorem d_M_cutOut_12 : decode prog_13_method_18_code 12 = .ok (.getfield 117, 3) := by decide +kernel
theorem d_M_cutOut_15 : decode prog_13_method_18_code 15 = .ok (.if_icmp .ne 4, 3) := by decide +kernel
theorem d_M_cutOut_18 : decode prog_13_method_18_code 18 = .ok (.return_, 1) := by decide +kernel
theorem d_M_cutOut_19 : decode prog_13_method_18_code 19 = .ok (.aload_n 0, 1) := by decide +kernel
theorem d_M_cutOut_20 : decode prog_13_method_18_code 20 = .ok (.getfield 13, 3) := by decide +kernel
theorem d_M_cutOut_23 : decode prog_13_method_18_code 23 = .ok (.aload_n 0, 1) := by decide +kernel
theorem d_M_cutOut_24 : decode prog_13_method_18_code 24 = .ok (.getfield 117, 3) := by decide +kernel
theorem d_M_cutOut_27 : decode prog_13_method_18_code 27 = .ok (.if_icmp .ge 10, 3) := by decide +kernel
theorem d_M_cutOut_30 : decode prog_13_method_18_code 30 = .ok (.aload_n 0, 1) := by decide +kernel
theorem d_M_cutOut_31 : decode prog_13_method_18_code 31 = .ok (.getfield 13, 3) := by decide +kernel
theorem d_M_cutOut_34 : decode prog_13_method_18_code 34 = .ok (.goto 7, 3) := by decide +kernel
theorem d_M_cutOut_37 : decode prog_13_method_18_code 37 = .ok (.aload_n 0, 1) := by decide +kernel
theorem d_M_cutOut_38 : decode prog_13_method_18_code 38 = .ok (.getfield 117, 3) := by decide +kernel
theorem d_M_cutOut_41 : decode prog_13_method_18_code 41 = .ok (.istore_n 1, 1) := by decide +kernel
theorem d_M_cutOut_42 : decode prog_13_method_18_code 42 = .ok (.aload_n 0, 1) := by decide +kernel
theorem d_M_cutOut_43 : decode prog_13_method_18_code 43 = .ok (.getfield 13, 3) := by decide +kernel
theorem d_M_cutOut_46 : decode prog_13_method_18_code 46 = .ok (.aload_n 0, 1) := by decide +kernel
theorem d_M_cutOut_47 : decode prog_13_method_18_code 47 = .ok (.getfield 117, 3) := by decide +kernel
theorem d_M_cutOut_50 : decode prog_13_method_18_code 50 = .ok (.if_icmp .ge 10, 3) := by decide +kernel
theorem d_M_cutOut_53 : decode prog_13_method_18_code 53 = .ok (.aload_n 0, 1) := by decide +kernel
theorem d_M_cutOut_54 : decode prog_13_method_18_code 54 = .ok (.getfield 117, 3) := by decide +kernel
theorem d_M_cutOut_57 : decode prog_13_method_18_code 57 = .ok (.goto 7, 3) := by decide +kernel
theorem d_M_cutOut_60 : decode prog_13_method_18_code 60 = .ok (.aload_n 0, 1) := by decide +kernel
theorem d_M_cutOut_61 : decode prog_13_method_18_code 61 = .ok (.getfield 13, 3) := by decide +kernel
theorem d_M_cutOut_64 : decode prog_13_method_18_code 64 = .ok (.istore_n 2, 1) := by decide +kernel
theorem d_M_cutOut_65 : decode prog_13_method_18_code 65 = .ok (.aload_n 0, 1) := by decide +kernel
theorem d_M_cutOut_66 : decode prog_13_method_18_code 66 = .ok (.iload_n 2, 1) := by decide +kernel
theorem d_M_cutOut_67 : decode prog_13_method_18_code 67 = .ok (.iload_n 1, 1) := by decide +kernel
theorem d_M_cutOut_68 : decode prog_13_method_18_code 68 = .ok (.isub, 1) := by decide +kernel
theorem d_M_cutOut_69 : decode prog_13_method_18_code 69 = .ok (.putfield 132, 3) := by decide +kernel
theorem d_M_cutOut_72 : decode prog_13_method_18_code 72 = .ok (.iconst 0, 1) := by decide +kernel
theorem d_M_cutOut_73 : decode prog_13_method_18_code 73 = .ok (.istore_n 3, 1) := by decide +kernel
theorem d_M_cutOut_74 : decode prog_13_method_18_code 74 = .ok (.iload_n 3, 1) := by decide +kernel
theorem d_M_cutOut_75 : decode prog_13_method_18_code 75 = .ok (.aload_n 0, 1) := by decide +kernel
theorem d_M_cutOut_76 : decode prog_13_method_18_code 76 = .ok (.getfield 132, 3) := by decide +kernel
theorem d_M_cutOut_79 : decode prog_13_method_18_code 79 = .ok (.if_icmp .ge 23, 3) := by decide +kernel
theorem d_M_cutOut_82 : decode prog_13_method_18_code 82 = .ok (.aload_n 0, 1) := by decide +kernel
theorem d_M_cutOut_83 : decode prog_13_method_18_code 83 = .ok (.getfield 17, 3) := by decide +kernel
theorem d_M_cutOut_86 : decode prog_13_method_18_code 86 = .ok (.iload_n 3, 1) := by decide +kernel
theorem d_M_cutOut_87 : decode prog_13_method_18_code 87 = .ok (.aload_n 0, 1) := by decide +kernel
theorem d_M_cutOut_88 : decode prog_13_method_18_code 88 = .ok (.getfield 7, 3) := by decide +kernel
theorem d_M_cutOut_91 : decode prog_13_method_18_code 91 = .ok (.iload_n 1, 1) := by decide +kernel
theorem d_M_cutOut_92 : decode prog_13_method_18_code 92 = .ok (.iload_n 3, 1) := by decide +kernel
theorem d_M_cutOut_93 : decode prog_13_method_18_code 93 = .ok (.iadd, 1) := by decide +kernel
theorem d_M_cutOut_94 : decode prog_13_method_18_code 94 = .ok (.iaload, 1) := by decide +kernel
theorem d_M_cutOut_95 : decode prog_13_method_18_code 95 = .ok (.iastore, 1) := by decide +kernel
theorem d_M_cutOut_96 : decode prog_13_method_18_code 96 = .ok (.iinc 3 1, 3) := by decide +kernel
theorem d_M_cutOut_99 : decode prog_13_method_18_code 99 = .ok (.goto (-25), 3) := by decide +kernel
theorem d_M_cutOut_102 : decode prog_13_method_18_code 102 = .ok (.aload_n 0, 1) := by decide +kernel
theorem d_M_cutOut_103 : decode prog_13_method_18_code 103 = .ok (.iload_n 1, 1) := by decide +kernel
theorem d_M_cutOut_104 : decode prog_13_method_18_code 104 = .ok (.iload_n 2, 1) := by decide +kernel
theorem d_M_cutOut_105 : decode prog_13_method_18_code 105 = .ok (.invokevirtual 138, 3) := by decide +kernel
theorem d_M_cutOut_108 : decode prog_13_method_18_code 108 = .ok (.return_, 1) := by decide +kernel
theorem d_M_undo_0 : decode prog_13_method_19_code 0 = .ok (.aload_n 0, 1) := by decide +kernel
theorem d_M_undo_1 : decode prog_13_method_19_code 1 = .ok (.getfield 111, 3) := by decide +kernel
theorem d_M_undo_4 : decode prog_13_method_19_code 4 = .ok (.ifCond .ne 4, 3) := by decide +kernel
theorem d_M_undo_7 : decode prog_13_method_19_code 7 = .ok (.return_, 1) := by decide +kernel
theorem d_M_undo_8 : decode prog_13_method_19_code 8 = .ok (.aload_n 0, 1) := by decide +kernel
theorem d_M_undo_9 : decode prog_13_method_19_code 9 = .ok (.dup, 1) := by decide +kernel
theorem d_M_undo_10 : decode prog_13_method_19_code 10 = .ok (.getfield 111, 3) := by decide +kernel
theorem d_M_undo_13 : decode prog_13_method_19_code 13 = .ok (.iconst 1, 1) := by decide +kernel
theorem d_M_undo_14 : decode prog_13_method_19_code 14 = .ok (.isub, 1) := by decide +kernel
theorem d_M_undo_15 : decode prog_13_method_19_code 15 = .ok (.putfield 111, 3) := by decide +kernel
theorem d_M_undo_18 : decode prog_13_method_19_code 18 = .ok (.aload_n 0, 1) := by decide +kernel
theorem d_M_undo_19 : decode prog_13_method_19_code 19 = .ok (.getfield 23, 3) := by decide +kernel
theorem d_M_undo_22 : decode prog_13_method_19_code 22 = .ok (.aload_n 0, 1) := by decide +kernel
theorem d_M_undo_23 : decode prog_13_method_19_code 23 = .ok (.getfield 111, 3) := by decide +kernel
theorem d_M_undo_26 : decode prog_13_method_19_code 26 = .ok (.iaload, 1) := by decide +kernel
theorem d_M_undo_27 : decode prog_13_method_19_code 27 = .ok (.istore_n 1, 1) := by decide +kernel
theorem d_M_undo_28 : decode prog_13_method_19_code 28 = .ok (.aload_n 0, 1) := by decide +kernel
theorem d_M_undo_29 : decode prog_13_method_19_code 29 = .ok (.iload_n 1, 1) := by decide +kernel
theorem d_M_undo_30 : decode prog_13_method_19_code 30 = .ok (.aload_n 0, 1) := by decide +kernel
theorem d_M_undo_31 : decode prog_13_method_19_code 31 = .ok (.getfield 26, 3) := by decide +kernel
theorem d_M_undo_34 : decode prog_13_method_19_code 34 = .ok (.aload_n 0, 1) := by decide +kernel
theorem d_M_undo_35 : decode prog_13_method_19_code 35 = .ok (.getfield 111, 3) := by decide +kernel
theorem d_M_undo_38 : decode prog_13_method_19_code 38 = .ok (.iaload, 1) := by decide +kernel
theorem d_M_undo_39 : decode prog_13_method_19_code 39 = .ok (.invokevirtual 135, 3) := by decide +kernel
theorem d_M_undo_42 : decode prog_13_method_19_code 42 = .ok (.aload_n 0, 1) := by decide +kernel
theorem d_M_undo_43 : decode prog_13_method_19_code 43 = .ok (.iload_n 1, 1) := by decide +kernel
theorem d_M_undo_44 : decode prog_13_method_19_code 44 = .ok (.aload_n 0, 1) := by decide +kernel
theorem d_M_undo_45 : decode prog_13_method_19_code 45 = .ok (.getfield 29, 3) := by decide +kernel
theorem d_M_undo_48 : decode prog_13_method_19_code 48 = .ok (.aload_n 0, 1) := by decide +kernel
theorem d_M_undo_49 : decode prog_13_method_19_code 49 = .ok (.getfield 111, 3) := by decide +kernel
theorem d_M_undo_52 : decode prog_13_method_19_code 52 = .ok (.iaload, 1) := by decide +kernel
theorem d_M_undo_53 : decode prog_13_method_19_code 53 = .ok (.invokevirtual 124, 3) := by decide +kernel
theorem d_M_undo_56 : decode prog_13_method_19_code 56 = .ok (.iconst 0, 1) := by decide +kernel
theorem d_M_undo_57 : decode prog_13_method_19_code 57 = .ok (.istore_n 2, 1) := by decide +kernel
theorem d_M_undo_58 : decode prog_13_method_19_code 58 = .ok (.iload_n 2, 1) := by decide +kernel
theorem d_M_undo_59 : decode prog_13_method_19_code 59 = .ok (.aload_n 0, 1) := by decide +kernel
theorem d_M_undo_60 : decode prog_13_method_19_code 60 = .ok (.getfield 29, 3) := by decide +kernel
theorem d_M_undo_63 : decode prog_13_method_19_code 63 = .ok (.aload_n 0, 1) := by decide +kernel
theorem d_M_undo_64 : decode prog_13_method_19_code 64 = .ok (.getfield 111, 3) := by decide +kernel
theorem d_M_undo_67 : decode prog_13_method_19_code 67 = .ok (.iaload, 1) := by decide +kernel
theorem d_M_undo_68 : decode prog_13_method_19_code 68 = .ok (.if_icmp .ge 32, 3) := by decide +kernel
theorem d_M_undo_71 : decode prog_13_method_19_code 71 = .ok (.aload_n 0, 1) := by decide +kernel
theorem d_M_undo_72 : decode prog_13_method_19_code 72 = .ok (.getfield 7, 3) := by decide +kernel
theorem d_M_undo_75 : decode prog_13_method_19_code 75 = .ok (.iload_n 1, 1) := by decide +kernel
theorem d_M_undo_76 : decode prog_13_method_19_code 76 = .ok (.iload_n 2, 1) := by decide +kernel
theorem d_M_undo_77 : decode prog_13_method_19_code 77 = .ok (.iadd, 1) := by decide +kernel
theorem d_M_undo_78 : decode prog_13_method_19_code 78 = .ok (.aload_n 0, 1) := by decide +kernel
theorem d_M_undo_79 : decode prog_13_method_19_code 79 = .ok (.getfield 35, 3) := by decide +kernel
theorem d_M_undo_82 : decode prog_13_method_19_code 82 = .ok (.sipush 200, 3) := by decide +kernel
theorem d_M_undo_85 : decode prog_13_method_19_code 85 = .ok (.aload_n 0, 1) := by decide +kernel
theorem d_M_undo_86 : decode prog_13_method_19_code 86 = .ok (.getfield 111, 3) := by decide +kernel
theorem d_M_undo_89 : decode prog_13_method_19_code 89 = .ok (.imul, 1) := by decide +kernel
theorem d_M_undo_90 : decode prog_13_method_19_code 90 = .ok (.iload_n 2, 1) := by decide +kernel
theorem d_M_undo_91 : decode prog_13_method_19_code 91 = .ok (.iadd, 1) := by decide +kernel
theorem d_M_undo_92 : decode prog_13_method_19_code 92 = .ok (.iaload, 1) := by decide +kernel
theorem d_M_undo_93 : decode prog_13_method_19_code 93 = .ok (.iastore, 1) := by decide +kernel
theorem d_M_undo_94 : decode prog_13_method_19_code 94 = .ok (.iinc 2 1, 3) := by decide +kernel
theorem d_M_undo_97 : decode prog_13_method_19_code 97 = .ok (.goto (-39), 3) := by decide +kernel
theorem d_M_undo_100 : decode prog_13_method_19_code 100 = .ok (.aload_n 0, 1) := by decide +kernel
theorem d_M_undo_101 : decode prog_13_method_19_code 101 = .ok (.iconst (-1), 1) := by decide +kernel
theorem d_M_undo_102 : decode prog_13_method_19_code 102 = .ok (.putfield 13, 3) := by decide +kernel
theorem d_M_undo_105 : decode prog_13_method_19_code 105 = .ok (.aload_n 0, 1) := by decide +kernel
theorem d_M_undo_106 : decode prog_13_method_19_code 106 = .ok (.aload_n 0, 1) := by decide +kernel
theorem d_M_undo_107 : decode prog_13_method_19_code 107 = .ok (.getfield 32, 3) := by decide +kernel
theorem d_M_undo_110 : decode prog_13_method_19_code 110 = .ok (.aload_n 0, 1) := by decide +kernel
theorem d_M_undo_111 : decode prog_13_method_19_code 111 = .ok (.getfield 111, 3) := by decide +kernel
theorem d_M_undo_114 : decode prog_13_method_19_code 114 = .ok (.iaload, 1) := by decide +kernel
theorem d_M_undo_115 : decode prog_13_method_19_code 115 = .ok (.invokevirtual 128, 3) := by decide +kernel
theorem d_M_undo_118 : decode prog_13_method_19_code 118 = .ok (.return_, 1) := by decide +kernel
theorem d_M_character_0 : decode prog_13_method_20_code 0 = .ok (.aload_n 0, 1) := by decide +kernel
theorem d_M_character_1 : decode prog_13_method_20_code 1 = .ok (.iconst (-1), 1) := by decide +kernel
theorem d_M_character_2 : decode prog_13_method_20_code 2 = .ok (.putfield 20, 3) := by decide +kernel
theorem d_M_character_5 : decode prog_13_method_20_code 5 = .ok (.aload_n 0, 1) := by decide +kernel
theorem d_M_character_6 : decode prog_13_method_20_code 6 = .ok (.iload_n 1, 1) := by decide +kernel
theorem d_M_character_7 : decode prog_13_method_20_code 7 = .ok (.invokevirtual 141, 3) := by decide +kernel
theorem d_M_character_10 : decode prog_13_method_20_code 10 = .ok (.return_, 1) := by decide +kernel
theorem d_M_control_0 : decode prog_13_method_21_code 0 = .ok (.iload_n 1, 1) := by decide +kernel
theorem d_M_control_1 : decode prog_13_method_21_code 1 = .ok (.bipush 13, 2) := by decide +kernel
theorem d_M_control_3 : decode prog_13_method_21_code 3 = .ok (.if_icmp .ne 12, 3) := by decide +kernel
theorem d_M_control_6 : decode prog_13_method_21_code 6 = .ok (.aload_n 0, 1) := by decide +kernel
theorem d_M_control_7 : decode prog_13_method_21_code 7 = .ok (.bipush 10, 2) := by decide +kernel
theorem d_M_control_9 : decode prog_13_method_21_code 9 = .ok (.invokevirtual 144, 3) := by decide +kernel
theorem d_M_control_12 : decode prog_13_method_21_code 12 = .ok (.goto 51, 3) := by decide +kernel
theorem d_M_control_15 : decode prog_13_method_21_code 15 = .ok (.iload_n 1, 1) := by decide +kernel
theorem d_M_control_16 : decode prog_13_method_21_code 16 = .ok (.bipush 9, 2) := by decide +kernel
theorem d_M_control_18 : decode prog_13_method_21_code 18 = .ok (.if_icmp .ne 12, 3) := by decide +kernel
theorem d_M_control_21 : decode prog_13_method_21_code 21 = .ok (.aload_n 0, 1) := by decide +kernel
theorem d_M_control_22 : decode prog_13_method_21_code 22 = .ok (.bipush 9, 2) := by decide +kernel
theorem d_M_control_24 : decode prog_13_method_21_code 24 = .ok (.invokevirtual 144, 3) := by decide +kernel
theorem d_M_control_27 : decode prog_13_method_21_code 27 = .ok (.goto 36, 3) := by decide +kernel
theorem d_M_control_30 : decode prog_13_method_21_code 30 = .ok (.aload_n 0, 1) := by decide +kernel
theorem d_M_control_31 : decode prog_13_method_21_code 31 = .ok (.getfield 147, 3) := by decide +kernel
theorem d_M_control_34 : decode prog_13_method_21_code 34 = .ok (.ifCond .eq 24, 3) := by decide +kernel
theorem d_M_control_37 : decode prog_13_method_21_code 37 = .ok (.iload_n 1, 1) := by decide +kernel
theorem d_M_control_38 : decode prog_13_method_21_code 38 = .ok (.bipush 10, 2) := by decide +kernel
theorem d_M_control_40 : decode prog_13_method_21_code 40 = .ok (.if_icmp .ne 23, 3) := by decide +kernel
theorem d_M_control_43 : decode prog_13_method_21_code 43 = .ok (.iload_n 2, 1) := by decide +kernel
theorem d_M_control_44 : decode prog_13_method_21_code 44 = .ok (.bipush 13, 2) := by decide +kernel
theorem d_M_control_46 : decode prog_13_method_21_code 46 = .ok (.if_icmp .eq 17, 3) := by decide +kernel
theorem d_M_control_49 : decode prog_13_method_21_code 49 = .ok (.aload_n 0, 1) := by decide +kernel
theorem d_M_control_50 : decode prog_13_method_21_code 50 = .ok (.bipush 10, 2) := by decide +kernel
theorem d_M_control_52 : decode prog_13_method_21_code 52 = .ok (.invokevirtual 144, 3) := by decide +kernel
theorem d_M_control_55 : decode prog_13_method_21_code 55 = .ok (.goto 8, 3) := by decide +kernel
theorem d_M_control_58 : decode prog_13_method_21_code 58 = .ok (.aload_n 0, 1) := by decide +kernel
theorem d_M_control_59 : decode prog_13_method_21_code 59 = .ok (.iload_n 1, 1) := by decide +kernel
theorem d_M_control_60 : decode prog_13_method_21_code 60 = .ok (.invokevirtual 150, 3) := by decide +kernel
theorem d_M_control_63 : decode prog_13_method_21_code 63 = .ok (.return_, 1) := by decide +kernel
