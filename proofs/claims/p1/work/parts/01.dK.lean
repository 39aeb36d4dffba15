theorem d_K_leave_0 : decode prog_6_method_2_code 0 = .ok (.aload_n 0, 1) := by decide +kernel
theorem d_K_leave_1 : decode prog_6_method_2_code 1 = .ok (.iload_n 1, 1) := by decide +kernel
theorem d_K_leave_2 : decode prog_6_method_2_code 2 = .ok (.invokevirtual 18, 3) := by decide +kernel
theorem d_K_leave_5 : decode prog_6_method_2_code 5 = .ok (.ifCond .eq 7, 3) := by decide +kernel
theorem d_K_leave_8 : decode prog_6_method_2_code 8 = .ok (.iconst (-1), 1) := by decide +kernel
theorem d_K_leave_9 : decode prog_6_method_2_code 9 = .ok (.goto 7, 3) := by decide +kernel
theorem d_K_leave_12 : decode prog_6_method_2_code 12 = .ok (.aload_n 0, 1) := by decide +kernel
theorem d_K_leave_13 : decode prog_6_method_2_code 13 = .ok (.invokevirtual 22, 3) := by decide +kernel
theorem d_K_leave_16 : decode prog_6_method_2_code 16 = .ok (.ireturn, 1) := by decide +kernel
theorem d_K_giveUp_0 : decode prog_6_method_3_code 0 = .ok (.aload_n 0, 1) := by decide +kernel
theorem d_K_giveUp_1 : decode prog_6_method_3_code 1 = .ok (.getfield 11, 3) := by decide +kernel
theorem d_K_giveUp_4 : decode prog_6_method_3_code 4 = .ok (.istore_n 1, 1) := by decide +kernel
theorem d_K_giveUp_5 : decode prog_6_method_3_code 5 = .ok (.aload_n 0, 1) := by decide +kernel
theorem d_K_giveUp_6 : decode prog_6_method_3_code 6 = .ok (.iconst 0, 1) := by decide +kernel
theorem d_K_giveUp_7 : decode prog_6_method_3_code 7 = .ok (.putfield 11, 3) := by decide +kernel
theorem d_K_giveUp_10 : decode prog_6_method_3_code 10 = .ok (.iload_n 1, 1) := by decide +kernel
theorem d_K_giveUp_11 : decode prog_6_method_3_code 11 = .ok (.iconst 1, 1) := by decide +kernel
theorem d_K_giveUp_12 : decode prog_6_method_3_code 12 = .ok (.if_icmp .ne 6, 3) := by decide +kernel
theorem d_K_giveUp_15 : decode prog_6_method_3_code 15 = .ok (.bipush 27, 2) := by decide +kernel
theorem d_K_giveUp_17 : decode prog_6_method_3_code 17 = .ok (.ireturn, 1) := by decide +kernel
theorem d_K_giveUp_18 : decode prog_6_method_3_code 18 = .ok (.iload_n 1, 1) := by decide +kernel
theorem d_K_giveUp_19 : decode prog_6_method_3_code 19 = .ok (.iconst 3, 1) := by decide +kernel
theorem d_K_giveUp_20 : decode prog_6_method_3_code 20 = .ok (.if_icmp .ne 8, 3) := by decide +kernel
theorem d_K_giveUp_23 : decode prog_6_method_3_code 23 = .ok (.ldc 26, 2) := by decide +kernel
theorem d_K_giveUp_25 : decode prog_6_method_3_code 25 = .ok (.goto 4, 3) := by decide +kernel
theorem d_K_giveUp_28 : decode prog_6_method_3_code 28 = .ok (.iconst (-1), 1) := by decide +kernel
theorem d_K_giveUp_29 : decode prog_6_method_3_code 29 = .ok (.ireturn, 1) := by decide +kernel
theorem d_K_take_0 : decode prog_6_method_4_code 0 = .ok (.iconst (-1), 1) := by decide +kernel
theorem d_K_take_1 : decode prog_6_method_4_code 1 = .ok (.istore_n 2, 1) := by decide +kernel
theorem d_K_take_2 : decode prog_6_method_4_code 2 = .ok (.aload_n 0, 1) := by decide +kernel
theorem d_K_take_3 : decode prog_6_method_4_code 3 = .ok (.getfield 11, 3) := by decide +kernel
theorem d_K_take_6 : decode prog_6_method_4_code 6 = .ok (.tableswitch 57 1 3 #[26, 39, 48], 26) := by decide +kernel
theorem d_K_take_32 : decode prog_6_method_4_code 32 = .ok (.aload_n 0, 1) := by decide +kernel
theorem d_K_take_33 : decode prog_6_method_4_code 33 = .ok (.iconst 2, 1) := by decide +kernel
theorem d_K_take_34 : decode prog_6_method_4_code 34 = .ok (.putfield 11, 3) := by decide +kernel
theorem d_K_take_37 : decode prog_6_method_4_code 37 = .ok (.aload_n 0, 1) := by decide +kernel
theorem d_K_take_38 : decode prog_6_method_4_code 38 = .ok (.iconst 0, 1) := by decide +kernel
theorem d_K_take_39 : decode prog_6_method_4_code 39 = .ok (.putfield 27, 3) := by decide +kernel
theorem d_K_take_42 : decode prog_6_method_4_code 42 = .ok (.goto 27, 3) := by decide +kernel
theorem d_K_take_45 : decode prog_6_method_4_code 45 = .ok (.aload_n 0, 1) := by decide +kernel
theorem d_K_take_46 : decode prog_6_method_4_code 46 = .ok (.iload_n 1, 1) := by decide +kernel
theorem d_K_take_47 : decode prog_6_method_4_code 47 = .ok (.invokevirtual 30, 3) := by decide +kernel
theorem d_K_take_50 : decode prog_6_method_4_code 50 = .ok (.istore_n 2, 1) := by decide +kernel
theorem d_K_take_51 : decode prog_6_method_4_code 51 = .ok (.goto 18, 3) := by decide +kernel
theorem d_K_take_54 : decode prog_6_method_4_code 54 = .ok (.aload_n 0, 1) := by decide +kernel
theorem d_K_take_55 : decode prog_6_method_4_code 55 = .ok (.iload_n 1, 1) := by decide +kernel
theorem d_K_take_56 : decode prog_6_method_4_code 56 = .ok (.invokevirtual 34, 3) := by decide +kernel
theorem d_K_take_59 : decode prog_6_method_4_code 59 = .ok (.istore_n 2, 1) := by decide +kernel
theorem d_K_take_60 : decode prog_6_method_4_code 60 = .ok (.goto 9, 3) := by decide +kernel
theorem d_K_take_63 : decode prog_6_method_4_code 63 = .ok (.aload_n 0, 1) := by decide +kernel
theorem d_K_take_64 : decode prog_6_method_4_code 64 = .ok (.iload_n 1, 1) := by decide +kernel
theorem d_K_take_65 : decode prog_6_method_4_code 65 = .ok (.invokevirtual 37, 3) := by decide +kernel
theorem d_K_take_68 : decode prog_6_method_4_code 68 = .ok (.istore_n 2, 1) := by decide +kernel
theorem d_K_take_69 : decode prog_6_method_4_code 69 = .ok (.aload_n 0, 1) := by decide +kernel
theorem d_K_take_70 : decode prog_6_method_4_code 70 = .ok (.iload_n 1, 1) := by decide +kernel
theorem d_K_take_71 : decode prog_6_method_4_code 71 = .ok (.putfield 15, 3) := by decide +kernel
theorem d_K_take_74 : decode prog_6_method_4_code 74 = .ok (.iload_n 2, 1) := by decide +kernel
theorem d_K_take_75 : decode prog_6_method_4_code 75 = .ok (.ireturn, 1) := by decide +kernel
theorem d_K_goesOn_0 : decode prog_6_method_5_code 0 = .ok (.aload_n 0, 1) := by decide +kernel
theorem d_K_goesOn_1 : decode prog_6_method_5_code 1 = .ok (.getfield 11, 3) := by decide +kernel
theorem d_K_goesOn_4 : decode prog_6_method_5_code 4 = .ok (.tableswitch 82 1 3 #[28, 40, 60], 28) := by decide +kernel
theorem d_K_goesOn_32 : decode prog_6_method_5_code 32 = .ok (.iload_n 1, 1) := by decide +kernel
theorem d_K_goesOn_33 : decode prog_6_method_5_code 33 = .ok (.bipush 91, 2) := by decide +kernel
theorem d_K_goesOn_35 : decode prog_6_method_5_code 35 = .ok (.if_icmp .ne 7, 3) := by decide +kernel
theorem d_K_goesOn_38 : decode prog_6_method_5_code 38 = .ok (.iconst 1, 1) := by decide +kernel
theorem d_K_goesOn_39 : decode prog_6_method_5_code 39 = .ok (.goto 4, 3) := by decide +kernel
theorem d_K_goesOn_42 : decode prog_6_method_5_code 42 = .ok (.iconst 0, 1) := by decide +kernel
theorem d_K_goesOn_43 : decode prog_6_method_5_code 43 = .ok (.ireturn, 1) := by decide +kernel
theorem d_K_goesOn_44 : decode prog_6_method_5_code 44 = .ok (.iload_n 1, 1) := by decide +kernel
theorem d_K_goesOn_45 : decode prog_6_method_5_code 45 = .ok (.invokestatic 40, 3) := by decide +kernel
theorem d_K_goesOn_48 : decode prog_6_method_5_code 48 = .ok (.ifCond .ne 10, 3) := by decide +kernel
theorem d_K_goesOn_51 : decode prog_6_method_5_code 51 = .ok (.iload_n 1, 1) := by decide +kernel
theorem d_K_goesOn_52 : decode prog_6_method_5_code 52 = .ok (.invokestatic 43, 3) := by decide +kernel
theorem d_K_goesOn_55 : decode prog_6_method_5_code 55 = .ok (.ifCond .eq 7, 3) := by decide +kernel
theorem d_K_goesOn_58 : decode prog_6_method_5_code 58 = .ok (.iconst 1, 1) := by decide +kernel
theorem d_K_goesOn_59 : decode prog_6_method_5_code 59 = .ok (.goto 4, 3) := by decide +kernel
theorem d_K_goesOn_62 : decode prog_6_method_5_code 62 = .ok (.iconst 0, 1) := by decide +kernel
theorem d_K_goesOn_63 : decode prog_6_method_5_code 63 = .ok (.ireturn, 1) := by decide +kernel
theorem d_K_goesOn_64 : decode prog_6_method_5_code 64 = .ok (.iload_n 1, 1) := by decide +kernel
theorem d_K_goesOn_65 : decode prog_6_method_5_code 65 = .ok (.aload_n 0, 1) := by decide +kernel
theorem d_K_goesOn_66 : decode prog_6_method_5_code 66 = .ok (.getfield 46, 3) := by decide +kernel
theorem d_K_goesOn_69 : decode prog_6_method_5_code 69 = .ok (.if_icmp .lt 15, 3) := by decide +kernel
theorem d_K_goesOn_72 : decode prog_6_method_5_code 72 = .ok (.iload_n 1, 1) := by decide +kernel
theorem d_K_goesOn_73 : decode prog_6_method_5_code 73 = .ok (.aload_n 0, 1) := by decide +kernel
theorem d_K_goesOn_74 : decode prog_6_method_5_code 74 = .ok (.getfield 49, 3) := by decide +kernel
theorem d_K_goesOn_77 : decode prog_6_method_5_code 77 = .ok (.if_icmp .gt 7, 3) := by decide +kernel
theorem d_K_goesOn_80 : decode prog_6_method_5_code 80 = .ok (.iconst 1, 1) := by decide +kernel
theorem d_K_goesOn_81 : decode prog_6_method_5_code 81 = .ok (.goto 4, 3) := by decide +kernel
theorem d_K_goesOn_84 : decode prog_6_method_5_code 84 = .ok (.iconst 0, 1) := by decide +kernel
theorem d_K_goesOn_85 : decode prog_6_method_5_code 85 = .ok (.ireturn, 1) := by decide +kernel
theorem d_K_goesOn_86 : decode prog_6_method_5_code 86 = .ok (.iconst 1, 1) := by decide +kernel
theorem d_K_goesOn_87 : decode prog_6_method_5_code 87 = .ok (.ireturn, 1) := by decide +kernel
theorem d_K_isDigit_0 : decode prog_6_method_6_code 0 = .ok (.iload_n 0, 1) := by decide +kernel
theorem d_K_isDigit_1 : decode prog_6_method_6_code 1 = .ok (.bipush 48, 2) := by decide +kernel
theorem d_K_isDigit_3 : decode prog_6_method_6_code 3 = .ok (.if_icmp .lt 13, 3) := by decide +kernel
theorem d_K_isDigit_6 : decode prog_6_method_6_code 6 = .ok (.iload_n 0, 1) := by decide +kernel
theorem d_K_isDigit_7 : decode prog_6_method_6_code 7 = .ok (.bipush 57, 2) := by decide +kernel
theorem d_K_isDigit_9 : decode prog_6_method_6_code 9 = .ok (.if_icmp .gt 7, 3) := by decide +kernel
theorem d_K_isDigit_12 : decode prog_6_method_6_code 12 = .ok (.iconst 1, 1) := by decide +kernel
theorem d_K_isDigit_13 : decode prog_6_method_6_code 13 = .ok (.goto 4, 3) := by decide +kernel
theorem d_K_isDigit_16 : decode prog_6_method_6_code 16 = .ok (.iconst 0, 1) := by decide +kernel
theorem d_K_isDigit_17 : decode prog_6_method_6_code 17 = .ok (.ireturn, 1) := by decide +kernel
theorem d_K_isFinal_0 : decode prog_6_method_7_code 0 = .ok (.iload_n 0, 1) := by decide +kernel
theorem d_K_isFinal_1 : decode prog_6_method_7_code 1 = .ok (.bipush 64, 2) := by decide +kernel
theorem d_K_isFinal_3 : decode prog_6_method_7_code 3 = .ok (.if_icmp .lt 13, 3) := by decide +kernel
theorem d_K_isFinal_6 : decode prog_6_method_7_code 6 = .ok (.iload_n 0, 1) := by decide +kernel
theorem d_K_isFinal_7 : decode prog_6_method_7_code 7 = .ok (.bipush 126, 2) := by decide +kernel
theorem d_K_isFinal_9 : decode prog_6_method_7_code 9 = .ok (.if_icmp .gt 7, 3) := by decide +kernel
theorem d_K_isFinal_12 : decode prog_6_method_7_code 12 = .ok (.iconst 1, 1) := by decide +kernel
theorem d_K_isFinal_13 : decode prog_6_method_7_code 13 = .ok (.goto 4, 3) := by decide +kernel
theorem d_K_isFinal_16 : decode prog_6_method_7_code 16 = .ok (.iconst 0, 1) := by decide +kernel
theorem d_K_isFinal_17 : decode prog_6_method_7_code 17 = .ok (.ireturn, 1) := by decide +kernel
theorem d_K_takePlain_0 : decode prog_6_method_8_code 0 = .ok (.iload_n 1, 1) := by decide +kernel
theorem d_K_takePlain_1 : decode prog_6_method_8_code 1 = .ok (.bipush 27, 2) := by decide +kernel
theorem d_K_takePlain_3 : decode prog_6_method_8_code 3 = .ok (.if_icmp .ne 10, 3) := by decide +kernel
theorem d_K_takePlain_6 : decode prog_6_method_8_code 6 = .ok (.aload_n 0, 1) := by decide +kernel
theorem d_K_takePlain_7 : decode prog_6_method_8_code 7 = .ok (.iconst 1, 1) := by decide +kernel
theorem d_K_takePlain_8 : decode prog_6_method_8_code 8 = .ok (.putfield 11, 3) := by decide +kernel
theorem d_K_takePlain_11 : decode prog_6_method_8_code 11 = .ok (.iconst (-1), 1) := by decide +kernel
theorem d_K_takePlain_12 : decode prog_6_method_8_code 12 = .ok (.ireturn, 1) := by decide +kernel
theorem d_K_takePlain_13 : decode prog_6_method_8_code 13 = .ok (.iload_n 1, 1) := by decide +kernel
theorem d_K_takePlain_14 : decode prog_6_method_8_code 14 = .ok (.sipush 194, 3) := by decide +kernel
theorem d_K_takePlain_17 : decode prog_6_method_8_code 17 = .ok (.if_icmp .lt 17, 3) := by decide +kernel
theorem d_K_takePlain_20 : decode prog_6_method_8_code 20 = .ok (.iload_n 1, 1) := by decide +kernel
theorem d_K_takePlain_21 : decode prog_6_method_8_code 21 = .ok (.sipush 239, 3) := by decide +kernel
theorem d_K_takePlain_24 : decode prog_6_method_8_code 24 = .ok (.if_icmp .gt 10, 3) := by decide +kernel
theorem d_K_takePlain_27 : decode prog_6_method_8_code 27 = .ok (.aload_n 0, 1) := by decide +kernel
theorem d_K_takePlain_28 : decode prog_6_method_8_code 28 = .ok (.iload_n 1, 1) := by decide +kernel
theorem d_K_takePlain_29 : decode prog_6_method_8_code 29 = .ok (.invokevirtual 52, 3) := by decide +kernel
theorem d_K_takePlain_32 : decode prog_6_method_8_code 32 = .ok (.iconst (-1), 1) := by decide +kernel
theorem d_K_takePlain_33 : decode prog_6_method_8_code 33 = .ok (.ireturn, 1) := by decide +kernel
theorem d_K_takePlain_34 : decode prog_6_method_8_code 34 = .ok (.iload_n 1, 1) := by decide +kernel
theorem d_K_takePlain_35 : decode prog_6_method_8_code 35 = .ok (.sipush 128, 3) := by decide +kernel
theorem d_K_takePlain_38 : decode prog_6_method_8_code 38 = .ok (.if_icmp .lt 6, 3) := by decide +kernel
theorem d_K_takePlain_41 : decode prog_6_method_8_code 41 = .ok (.ldc 26, 2) := by decide +kernel
theorem d_K_takePlain_43 : decode prog_6_method_8_code 43 = .ok (.ireturn, 1) := by decide +kernel
theorem d_K_takePlain_44 : decode prog_6_method_8_code 44 = .ok (.iload_n 1, 1) := by decide +kernel
theorem d_K_takePlain_45 : decode prog_6_method_8_code 45 = .ok (.bipush 10, 2) := by decide +kernel
theorem d_K_takePlain_47 : decode prog_6_method_8_code 47 = .ok (.if_icmp .ne 16, 3) := by decide +kernel
theorem d_K_takePlain_50 : decode prog_6_method_8_code 50 = .ok (.aload_n 0, 1) := by decide +kernel
theorem d_K_takePlain_51 : decode prog_6_method_8_code 51 = .ok (.getfield 15, 3) := by decide +kernel
theorem d_K_takePlain_54 : decode prog_6_method_8_code 54 = .ok (.bipush 13, 2) := by decide +kernel
theorem d_K_takePlain_56 : decode prog_6_method_8_code 56 = .ok (.if_icmp .ne 7, 3) := by decide +kernel
theorem d_K_takePlain_59 : decode prog_6_method_8_code 59 = .ok (.iconst (-1), 1) := by decide +kernel
theorem d_K_takePlain_60 : decode prog_6_method_8_code 60 = .ok (.goto 4, 3) := by decide +kernel
theorem d_K_takePlain_63 : decode prog_6_method_8_code 63 = .ok (.iload_n 1, 1) := by decide +kernel
theorem d_K_takePlain_64 : decode prog_6_method_8_code 64 = .ok (.ireturn, 1) := by decide +kernel
theorem d_K_beginCharacter_0 : decode prog_6_method_9_code 0 = .ok (.aload_n 0, 1) := by decide +kernel
theorem d_K_beginCharacter_1 : decode prog_6_method_9_code 1 = .ok (.iconst 3, 1) := by decide +kernel
theorem d_K_beginCharacter_2 : decode prog_6_method_9_code 2 = .ok (.putfield 11, 3) := by decide +kernel
theorem d_K_beginCharacter_5 : decode prog_6_method_9_code 5 = .ok (.aload_n 0, 1) := by decide +kernel
theorem d_K_beginCharacter_6 : decode prog_6_method_9_code 6 = .ok (.iload_n 1, 1) := by decide +kernel
theorem d_K_beginCharacter_7 : decode prog_6_method_9_code 7 = .ok (.sipush 224, 3) := by decide +kernel
theorem d_K_beginCharacter_10 : decode prog_6_method_9_code 10 = .ok (.if_icmp .ge 7, 3) := by decide +kernel
theorem d_K_beginCharacter_13 : decode prog_6_method_9_code 13 = .ok (.iconst 1, 1) := by decide +kernel
theorem d_K_beginCharacter_14 : decode prog_6_method_9_code 14 = .ok (.goto 4, 3) := by decide +kernel
theorem d_K_beginCharacter_17 : decode prog_6_method_9_code 17 = .ok (.iconst 2, 1) := by decide +kernel
theorem d_K_beginCharacter_18 : decode prog_6_method_9_code 18 = .ok (.putfield 56, 3) := by decide +kernel
theorem d_K_beginCharacter_21 : decode prog_6_method_9_code 21 = .ok (.aload_n 0, 1) := by decide +kernel
theorem d_K_beginCharacter_22 : decode prog_6_method_9_code 22 = .ok (.iload_n 1, 1) := by decide +kernel
theorem d_K_beginCharacter_23 : decode prog_6_method_9_code 23 = .ok (.sipush 224, 3) := by decide +kernel
theorem d_K_beginCharacter_26 : decode prog_6_method_9_code 26 = .ok (.if_icmp .ge 10, 3) := by decide +kernel
theorem d_K_beginCharacter_29 : decode prog_6_method_9_code 29 = .ok (.iload_n 1, 1) := by decide +kernel
theorem d_K_beginCharacter_30 : decode prog_6_method_9_code 30 = .ok (.bipush 31, 2) := by decide +kernel
theorem d_K_beginCharacter_32 : decode prog_6_method_9_code 32 = .ok (.iand, 1) := by decide +kernel
theorem d_K_beginCharacter_33 : decode prog_6_method_9_code 33 = .ok (.goto 7, 3) := by decide +kernel
theorem d_K_beginCharacter_36 : decode prog_6_method_9_code 36 = .ok (.iload_n 1, 1) := by decide +kernel
theorem d_K_beginCharacter_37 : decode prog_6_method_9_code 37 = .ok (.bipush 15, 2) := by decide +kernel
theorem d_K_beginCharacter_39 : decode prog_6_method_9_code 39 = .ok (.iand, 1) := by decide +kernel
theorem d_K_beginCharacter_40 : decode prog_6_method_9_code 40 = .ok (.putfield 59, 3) := by decide +kernel
theorem d_K_beginCharacter_43 : decode prog_6_method_9_code 43 = .ok (.aload_n 0, 1) := by decide +kernel
theorem d_K_beginCharacter_44 : decode prog_6_method_9_code 44 = .ok (.iload_n 1, 1) := by decide +kernel
theorem d_K_beginCharacter_45 : decode prog_6_method_9_code 45 = .ok (.sipush 224, 3) := by decide +kernel
theorem d_K_beginCharacter_48 : decode prog_6_method_9_code 48 = .ok (.if_icmp .ne 9, 3) := by decide +kernel
theorem d_K_beginCharacter_51 : decode prog_6_method_9_code 51 = .ok (.sipush 160, 3) := by decide +kernel
theorem d_K_beginCharacter_54 : decode prog_6_method_9_code 54 = .ok (.goto 6, 3) := by decide +kernel
theorem d_K_beginCharacter_57 : decode prog_6_method_9_code 57 = .ok (.sipush 128, 3) := by decide +kernel
theorem d_K_beginCharacter_60 : decode prog_6_method_9_code 60 = .ok (.putfield 46, 3) := by decide +kernel
theorem d_K_beginCharacter_63 : decode prog_6_method_9_code 63 = .ok (.aload_n 0, 1) := by decide +kernel
theorem d_K_beginCharacter_64 : decode prog_6_method_9_code 64 = .ok (.iload_n 1, 1) := by decide +kernel
theorem d_K_beginCharacter_65 : decode prog_6_method_9_code 65 = .ok (.sipush 237, 3) := by decide +kernel
theorem d_K_beginCharacter_68 : decode prog_6_method_9_code 68 = .ok (.if_icmp .ne 9, 3) := by decide +kernel
theorem d_K_beginCharacter_71 : decode prog_6_method_9_code 71 = .ok (.sipush 159, 3) := by decide +kernel
theorem d_K_beginCharacter_74 : decode prog_6_method_9_code 74 = .ok (.goto 6, 3) := by decide +kernel
theorem d_K_beginCharacter_77 : decode prog_6_method_9_code 77 = .ok (.sipush 191, 3) := by decide +kernel
theorem d_K_beginCharacter_80 : decode prog_6_method_9_code 80 = .ok (.putfield 49, 3) := by decide +kernel
theorem d_K_beginCharacter_83 : decode prog_6_method_9_code 83 = .ok (.return_, 1) := by decide +kernel
theorem d_K_takeWithin_0 : decode prog_6_method_10_code 0 = .ok (.aload_n 0, 1) := by decide +kernel
theorem d_K_takeWithin_1 : decode prog_6_method_10_code 1 = .ok (.aload_n 0, 1) := by decide +kernel
theorem d_K_takeWithin_2 : decode prog_6_method_10_code 2 = .ok (.getfield 59, 3) := by decide +kernel
theorem d_K_takeWithin_5 : decode prog_6_method_10_code 5 = .ok (.bipush 64, 2) := by decide +kernel
theorem d_K_takeWithin_7 : decode prog_6_method_10_code 7 = .ok (.imul, 1) := by decide +kernel
theorem d_K_takeWithin_8 : decode prog_6_method_10_code 8 = .ok (.iload_n 1, 1) := by decide +kernel
theorem d_K_takeWithin_9 : decode prog_6_method_10_code 9 = .ok (.bipush 63, 2) := by decide +kernel
theorem d_K_takeWithin_11 : decode prog_6_method_10_code 11 = .ok (.iand, 1) := by decide +kernel
theorem d_K_takeWithin_12 : decode prog_6_method_10_code 12 = .ok (.iadd, 1) := by decide +kernel
theorem d_K_takeWithin_13 : decode prog_6_method_10_code 13 = .ok (.putfield 59, 3) := by decide +kernel
theorem d_K_takeWithin_16 : decode prog_6_method_10_code 16 = .ok (.aload_n 0, 1) := by decide +kernel
theorem d_K_takeWithin_17 : decode prog_6_method_10_code 17 = .ok (.sipush 128, 3) := by decide +kernel
theorem d_K_takeWithin_20 : decode prog_6_method_10_code 20 = .ok (.putfield 46, 3) := by decide +kernel
theorem d_K_takeWithin_23 : decode prog_6_method_10_code 23 = .ok (.aload_n 0, 1) := by decide +kernel
theorem d_K_takeWithin_24 : decode prog_6_method_10_code 24 = .ok (.sipush 191, 3) := by decide +kernel
theorem d_K_takeWithin_27 : decode prog_6_method_10_code 27 = .ok (.putfield 49, 3) := by decide +kernel
theorem d_K_takeWithin_30 : decode prog_6_method_10_code 30 = .ok (.aload_n 0, 1) := by decide +kernel
theorem d_K_takeWithin_31 : decode prog_6_method_10_code 31 = .ok (.dup, 1) := by decide +kernel
theorem d_K_takeWithin_32 : decode prog_6_method_10_code 32 = .ok (.getfield 56, 3) := by decide +kernel
theorem d_K_takeWithin_35 : decode prog_6_method_10_code 35 = .ok (.iconst 1, 1) := by decide +kernel
theorem d_K_takeWithin_36 : decode prog_6_method_10_code 36 = .ok (.isub, 1) := by decide +kernel
theorem d_K_takeWithin_37 : decode prog_6_method_10_code 37 = .ok (.putfield 56, 3) := by decide +kernel
theorem d_K_takeWithin_40 : decode prog_6_method_10_code 40 = .ok (.aload_n 0, 1) := by decide +kernel
theorem d_K_takeWithin_41 : decode prog_6_method_10_code 41 = .ok (.getfield 56, 3) := by decide +kernel
theorem d_K_takeWithin_44 : decode prog_6_method_10_code 44 = .ok (.ifCond .le 5, 3) := by decide +kernel
theorem d_K_takeWithin_47 : decode prog_6_method_10_code 47 = .ok (.iconst (-1), 1) := by decide +kernel
theorem d_K_takeWithin_48 : decode prog_6_method_10_code 48 = .ok (.ireturn, 1) := by decide +kernel
theorem d_K_takeWithin_49 : decode prog_6_method_10_code 49 = .ok (.aload_n 0, 1) := by decide +kernel
theorem d_K_takeWithin_50 : decode prog_6_method_10_code 50 = .ok (.iconst 0, 1) := by decide +kernel
theorem d_K_takeWithin_51 : decode prog_6_method_10_code 51 = .ok (.putfield 11, 3) := by decide +kernel
theorem d_K_takeWithin_54 : decode prog_6_method_10_code 54 = .ok (.aload_n 0, 1) := by decide +kernel
theorem d_K_takeWithin_55 : decode prog_6_method_10_code 55 = .ok (.getfield 59, 3) := by decide +kernel
theorem d_K_takeWithin_58 : decode prog_6_method_10_code 58 = .ok (.sipush 160, 3) := by decide +kernel
theorem d_K_takeWithin_61 : decode prog_6_method_10_code 61 = .ok (.if_icmp .ge 7, 3) := by decide +kernel
theorem d_K_takeWithin_64 : decode prog_6_method_10_code 64 = .ok (.iconst (-1), 1) := by decide +kernel
theorem d_K_takeWithin_65 : decode prog_6_method_10_code 65 = .ok (.goto 7, 3) := by decide +kernel
theorem d_K_takeWithin_68 : decode prog_6_method_10_code 68 = .ok (.aload_n 0, 1) := by decide +kernel
theorem d_K_takeWithin_69 : decode prog_6_method_10_code 69 = .ok (.getfield 59, 3) := by decide +kernel
theorem d_K_takeWithin_72 : decode prog_6_method_10_code 72 = .ok (.ireturn, 1) := by decide +kernel
theorem d_K_takeInSequence_0 : decode prog_6_method_11_code 0 = .ok (.iload_n 1, 1) := by decide +kernel
theorem d_K_takeInSequence_1 : decode prog_6_method_11_code 1 = .ok (.invokestatic 40, 3) := by decide +kernel
theorem d_K_takeInSequence_4 : decode prog_6_method_11_code 4 = .ok (.ifCond .eq 27, 3) := by decide +kernel
theorem d_K_takeInSequence_7 : decode prog_6_method_11_code 7 = .ok (.aload_n 0, 1) := by decide +kernel
theorem d_K_takeInSequence_8 : decode prog_6_method_11_code 8 = .ok (.sipush 9999, 3) := by decide +kernel
theorem d_K_takeInSequence_11 : decode prog_6_method_11_code 11 = .ok (.bipush 10, 2) := by decide +kernel
theorem d_K_takeInSequence_13 : decode prog_6_method_11_code 13 = .ok (.aload_n 0, 1) := by decide +kernel
theorem d_K_takeInSequence_14 : decode prog_6_method_11_code 14 = .ok (.getfield 27, 3) := by decide +kernel
theorem d_K_takeInSequence_17 : decode prog_6_method_11_code 17 = .ok (.imul, 1) := by decide +kernel
theorem d_K_takeInSequence_18 : decode prog_6_method_11_code 18 = .ok (.iload_n 1, 1) := by decide +kernel
theorem d_K_takeInSequence_19 : decode prog_6_method_11_code 19 = .ok (.iadd, 1) := by decide +kernel
theorem d_K_takeInSequence_20 : decode prog_6_method_11_code 20 = .ok (.bipush 48, 2) := by decide +kernel
theorem d_K_takeInSequence_22 : decode prog_6_method_11_code 22 = .ok (.isub, 1) := by decide +kernel
theorem d_K_takeInSequence_23 : decode prog_6_method_11_code 23 = .ok (.invokestatic 62, 3) := by decide +kernel
theorem d_K_takeInSequence_26 : decode prog_6_method_11_code 26 = .ok (.putfield 27, 3) := by decide +kernel
theorem d_K_takeInSequence_29 : decode prog_6_method_11_code 29 = .ok (.iconst (-1), 1) := by decide +kernel
theorem d_K_takeInSequence_30 : decode prog_6_method_11_code 30 = .ok (.ireturn, 1) := by decide +kernel
theorem d_K_takeInSequence_31 : decode prog_6_method_11_code 31 = .ok (.aload_n 0, 1) := by decide +kernel
theorem d_K_takeInSequence_32 : decode prog_6_method_11_code 32 = .ok (.iconst 0, 1) := by decide +kernel
theorem d_K_takeInSequence_33 : decode prog_6_method_11_code 33 = .ok (.putfield 11, 3) := by decide +kernel
theorem d_K_takeInSequence_36 : decode prog_6_method_11_code 36 = .ok (.iload_n 1, 1) := by decide +kernel
theorem d_K_takeInSequence_37 : decode prog_6_method_11_code 37 = .ok (.lookupswitch 90 #[(65, 67), (66, 70), (67, 73), (68, 76), (70, 82), (72, 79), (126, 85)], 67) := by decide +kernel
theorem d_K_takeInSequence_104 : decode prog_6_method_11_code 104 = .ok (.ldc 68, 2) := by decide +kernel
theorem d_K_takeInSequence_106 : decode prog_6_method_11_code 106 = .ok (.ireturn, 1) := by decide +kernel
theorem d_K_takeInSequence_107 : decode prog_6_method_11_code 107 = .ok (.ldc 69, 2) := by decide +kernel
theorem d_K_takeInSequence_109 : decode prog_6_method_11_code 109 = .ok (.ireturn, 1) := by decide +kernel
theorem d_K_takeInSequence_110 : decode prog_6_method_11_code 110 = .ok (.ldc 70, 2) := by decide +kernel
theorem d_K_takeInSequence_112 : decode prog_6_method_11_code 112 = .ok (.ireturn, 1) := by decide +kernel
theorem d_K_takeInSequence_113 : decode prog_6_method_11_code 113 = .ok (.ldc 71, 2) := by decide +kernel
theorem d_K_takeInSequence_115 : decode prog_6_method_11_code 115 = .ok (.ireturn, 1) := by decide +kernel
theorem d_K_takeInSequence_116 : decode prog_6_method_11_code 116 = .ok (.ldc 72, 2) := by decide +kernel
theorem d_K_takeInSequence_118 : decode prog_6_method_11_code 118 = .ok (.ireturn, 1) := by decide +kernel
theorem d_K_takeInSequence_119 : decode prog_6_method_11_code 119 = .ok (.ldc 73, 2) := by decide +kernel
theorem d_K_takeInSequence_121 : decode prog_6_method_11_code 121 = .ok (.ireturn, 1) := by decide +kernel
theorem d_K_takeInSequence_122 : decode prog_6_method_11_code 122 = .ok (.aload_n 0, 1) := by decide +kernel
theorem d_K_takeInSequence_123 : decode prog_6_method_11_code 123 = .ok (.invokevirtual 74, 3) := by decide +kernel
theorem d_K_takeInSequence_126 : decode prog_6_method_11_code 126 = .ok (.ireturn, 1) := by decide +kernel
theorem d_K_takeInSequence_127 : decode prog_6_method_11_code 127 = .ok (.iconst (-1), 1) := by decide +kernel
theorem d_K_takeInSequence_128 : decode prog_6_method_11_code 128 = .ok (.ireturn, 1) := by decide +kernel
theorem d_K_numberedKey_0 : decode prog_6_method_12_code 0 = .ok (.aload_n 0, 1) := by decide +kernel
theorem d_K_numberedKey_1 : decode prog_6_method_12_code 1 = .ok (.getfield 27, 3) := by decide +kernel
theorem d_K_numberedKey_4 : decode prog_6_method_12_code 4 = .ok (.lookupswitch 45 #[(3, 36), (200, 39), (201, 42)], 36) := by decide +kernel
theorem d_K_numberedKey_40 : decode prog_6_method_12_code 40 = .ok (.ldc 77, 2) := by decide +kernel
theorem d_K_numberedKey_42 : decode prog_6_method_12_code 42 = .ok (.ireturn, 1) := by decide +kernel
theorem d_K_numberedKey_43 : decode prog_6_method_12_code 43 = .ok (.ldc 78, 2) := by decide +kernel
theorem d_K_numberedKey_45 : decode prog_6_method_12_code 45 = .ok (.ireturn, 1) := by decide +kernel
theorem d_K_numberedKey_46 : decode prog_6_method_12_code 46 = .ok (.ldc 79, 2) := by decide +kernel
theorem d_K_numberedKey_48 : decode prog_6_method_12_code 48 = .ok (.ireturn, 1) := by decide +kernel
theorem d_K_numberedKey_49 : decode prog_6_method_12_code 49 = .ok (.iconst (-1), 1) := by decide +kernel
theorem d_K_numberedKey_50 : decode prog_6_method_12_code 50 = .ok (.ireturn, 1) := by decide +kernel
