theorem d_T_codeAt_0 : decode prog_11_method_2_code 0 = .ok (.iload_n 1, 1) := by decide +kernel
theorem d_T_codeAt_1 : decode prog_11_method_2_code 1 = .ok (.ifCond .lt 20, 3) := by decide +kernel
theorem d_T_codeAt_4 : decode prog_11_method_2_code 4 = .ok (.iload_n 1, 1) := by decide +kernel
theorem d_T_codeAt_5 : decode prog_11_method_2_code 5 = .ok (.aload_n 0, 1) := by decide +kernel
theorem d_T_codeAt_6 : decode prog_11_method_2_code 6 = .ok (.getfield 15, 3) := by decide +kernel
theorem d_T_codeAt_9 : decode prog_11_method_2_code 9 = .ok (.if_icmp .ge 12, 3) := by decide +kernel
theorem d_T_codeAt_12 : decode prog_11_method_2_code 12 = .ok (.aload_n 0, 1) := by decide +kernel
theorem d_T_codeAt_13 : decode prog_11_method_2_code 13 = .ok (.getfield 9, 3) := by decide +kernel
theorem d_T_codeAt_16 : decode prog_11_method_2_code 16 = .ok (.iload_n 1, 1) := by decide +kernel
theorem d_T_codeAt_17 : decode prog_11_method_2_code 17 = .ok (.iaload, 1) := by decide +kernel
theorem d_T_codeAt_18 : decode prog_11_method_2_code 18 = .ok (.goto 4, 3) := by decide +kernel
theorem d_T_codeAt_21 : decode prog_11_method_2_code 21 = .ok (.iconst (-1), 1) := by decide +kernel
theorem d_T_codeAt_22 : decode prog_11_method_2_code 22 = .ok (.ireturn, 1) := by decide +kernel
theorem d_T_hasRoomFor_0 : decode prog_11_method_3_code 0 = .ok (.iload_n 1, 1) := by decide +kernel
theorem d_T_hasRoomFor_1 : decode prog_11_method_3_code 1 = .ok (.sipush 200, 3) := by decide +kernel
theorem d_T_hasRoomFor_4 : decode prog_11_method_3_code 4 = .ok (.aload_n 0, 1) := by decide +kernel
theorem d_T_hasRoomFor_5 : decode prog_11_method_3_code 5 = .ok (.getfield 15, 3) := by decide +kernel
theorem d_T_hasRoomFor_8 : decode prog_11_method_3_code 8 = .ok (.isub, 1) := by decide +kernel
theorem d_T_hasRoomFor_9 : decode prog_11_method_3_code 9 = .ok (.if_icmp .gt 7, 3) := by decide +kernel
theorem d_T_hasRoomFor_12 : decode prog_11_method_3_code 12 = .ok (.iconst 1, 1) := by decide +kernel
theorem d_T_hasRoomFor_13 : decode prog_11_method_3_code 13 = .ok (.goto 4, 3) := by decide +kernel
theorem d_T_hasRoomFor_16 : decode prog_11_method_3_code 16 = .ok (.iconst 0, 1) := by decide +kernel
theorem d_T_hasRoomFor_17 : decode prog_11_method_3_code 17 = .ok (.ireturn, 1) := by decide +kernel
theorem d_T_insert_0 : decode prog_11_method_4_code 0 = .ok (.aload_n 0, 1) := by decide +kernel
theorem d_T_insert_1 : decode prog_11_method_4_code 1 = .ok (.getfield 9, 3) := by decide +kernel
theorem d_T_insert_4 : decode prog_11_method_4_code 4 = .ok (.iload_n 1, 1) := by decide +kernel
theorem d_T_insert_5 : decode prog_11_method_4_code 5 = .ok (.aload_n 0, 1) := by decide +kernel
theorem d_T_insert_6 : decode prog_11_method_4_code 6 = .ok (.getfield 9, 3) := by decide +kernel
theorem d_T_insert_9 : decode prog_11_method_4_code 9 = .ok (.iload_n 1, 1) := by decide +kernel
theorem d_T_insert_10 : decode prog_11_method_4_code 10 = .ok (.iload 4, 2) := by decide +kernel
theorem d_T_insert_12 : decode prog_11_method_4_code 12 = .ok (.iadd, 1) := by decide +kernel
theorem d_T_insert_13 : decode prog_11_method_4_code 13 = .ok (.aload_n 0, 1) := by decide +kernel
theorem d_T_insert_14 : decode prog_11_method_4_code 14 = .ok (.getfield 15, 3) := by decide +kernel
theorem d_T_insert_17 : decode prog_11_method_4_code 17 = .ok (.iload_n 1, 1) := by decide +kernel
theorem d_T_insert_18 : decode prog_11_method_4_code 18 = .ok (.isub, 1) := by decide +kernel
theorem d_T_insert_19 : decode prog_11_method_4_code 19 = .ok (.invokestatic 19, 3) := by decide +kernel
theorem d_T_insert_22 : decode prog_11_method_4_code 22 = .ok (.aload_n 2, 1) := by decide +kernel
theorem d_T_insert_23 : decode prog_11_method_4_code 23 = .ok (.iload_n 3, 1) := by decide +kernel
theorem d_T_insert_24 : decode prog_11_method_4_code 24 = .ok (.aload_n 0, 1) := by decide +kernel
theorem d_T_insert_25 : decode prog_11_method_4_code 25 = .ok (.getfield 9, 3) := by decide +kernel
theorem d_T_insert_28 : decode prog_11_method_4_code 28 = .ok (.iload_n 1, 1) := by decide +kernel
theorem d_T_insert_29 : decode prog_11_method_4_code 29 = .ok (.iload 4, 2) := by decide +kernel
theorem d_T_insert_31 : decode prog_11_method_4_code 31 = .ok (.invokestatic 19, 3) := by decide +kernel
theorem d_T_insert_34 : decode prog_11_method_4_code 34 = .ok (.aload_n 0, 1) := by decide +kernel
theorem d_T_insert_35 : decode prog_11_method_4_code 35 = .ok (.dup, 1) := by decide +kernel
theorem d_T_insert_36 : decode prog_11_method_4_code 36 = .ok (.getfield 15, 3) := by decide +kernel
theorem d_T_insert_39 : decode prog_11_method_4_code 39 = .ok (.iload 4, 2) := by decide +kernel
theorem d_T_insert_41 : decode prog_11_method_4_code 41 = .ok (.iadd, 1) := by decide +kernel
theorem d_T_insert_42 : decode prog_11_method_4_code 42 = .ok (.putfield 15, 3) := by decide +kernel
theorem d_T_insert_45 : decode prog_11_method_4_code 45 = .ok (.return_, 1) := by decide +kernel
theorem d_T_remove_0 : decode prog_11_method_5_code 0 = .ok (.aload_n 0, 1) := by decide +kernel
theorem d_T_remove_1 : decode prog_11_method_5_code 1 = .ok (.getfield 9, 3) := by decide +kernel
theorem d_T_remove_4 : decode prog_11_method_5_code 4 = .ok (.iload_n 1, 1) := by decide +kernel
theorem d_T_remove_5 : decode prog_11_method_5_code 5 = .ok (.iload_n 2, 1) := by decide +kernel
theorem d_T_remove_6 : decode prog_11_method_5_code 6 = .ok (.iadd, 1) := by decide +kernel
theorem d_T_remove_7 : decode prog_11_method_5_code 7 = .ok (.aload_n 0, 1) := by decide +kernel
theorem d_T_remove_8 : decode prog_11_method_5_code 8 = .ok (.getfield 9, 3) := by decide +kernel
theorem d_T_remove_11 : decode prog_11_method_5_code 11 = .ok (.iload_n 1, 1) := by decide +kernel
theorem d_T_remove_12 : decode prog_11_method_5_code 12 = .ok (.aload_n 0, 1) := by decide +kernel
theorem d_T_remove_13 : decode prog_11_method_5_code 13 = .ok (.getfield 15, 3) := by decide +kernel
theorem d_T_remove_16 : decode prog_11_method_5_code 16 = .ok (.iload_n 1, 1) := by decide +kernel
theorem d_T_remove_17 : decode prog_11_method_5_code 17 = .ok (.isub, 1) := by decide +kernel
theorem d_T_remove_18 : decode prog_11_method_5_code 18 = .ok (.iload_n 2, 1) := by decide +kernel
theorem d_T_remove_19 : decode prog_11_method_5_code 19 = .ok (.isub, 1) := by decide +kernel
theorem d_T_remove_20 : decode prog_11_method_5_code 20 = .ok (.invokestatic 19, 3) := by decide +kernel
theorem d_T_remove_23 : decode prog_11_method_5_code 23 = .ok (.aload_n 0, 1) := by decide +kernel
theorem d_T_remove_24 : decode prog_11_method_5_code 24 = .ok (.dup, 1) := by decide +kernel
theorem d_T_remove_25 : decode prog_11_method_5_code 25 = .ok (.getfield 15, 3) := by decide +kernel
theorem d_T_remove_28 : decode prog_11_method_5_code 28 = .ok (.iload_n 2, 1) := by decide +kernel
theorem d_T_remove_29 : decode prog_11_method_5_code 29 = .ok (.isub, 1) := by decide +kernel
theorem d_T_remove_30 : decode prog_11_method_5_code 30 = .ok (.putfield 15, 3) := by decide +kernel
theorem d_T_remove_33 : decode prog_11_method_5_code 33 = .ok (.return_, 1) := by decide +kernel
theorem d_T_copyTo_0 : decode prog_11_method_6_code 0 = .ok (.aload_n 0, 1) := by decide +kernel
theorem d_T_copyTo_1 : decode prog_11_method_6_code 1 = .ok (.getfield 9, 3) := by decide +kernel
theorem d_T_copyTo_4 : decode prog_11_method_6_code 4 = .ok (.iload_n 3, 1) := by decide +kernel
theorem d_T_copyTo_5 : decode prog_11_method_6_code 5 = .ok (.aload_n 1, 1) := by decide +kernel
theorem d_T_copyTo_6 : decode prog_11_method_6_code 6 = .ok (.iload_n 2, 1) := by decide +kernel
theorem d_T_copyTo_7 : decode prog_11_method_6_code 7 = .ok (.iload 4, 2) := by decide +kernel
theorem d_T_copyTo_9 : decode prog_11_method_6_code 9 = .ok (.invokestatic 19, 3) := by decide +kernel
theorem d_T_copyTo_12 : decode prog_11_method_6_code 12 = .ok (.return_, 1) := by decide +kernel
theorem d_T_isBeginning_0 : decode prog_11_method_7_code 0 = .ok (.aload_n 0, 1) := by decide +kernel
theorem d_T_isBeginning_1 : decode prog_11_method_7_code 1 = .ok (.iload_n 1, 1) := by decide +kernel
theorem d_T_isBeginning_2 : decode prog_11_method_7_code 2 = .ok (.invokevirtual 25, 3) := by decide +kernel
theorem d_T_isBeginning_5 : decode prog_11_method_7_code 5 = .ok (.invokestatic 29, 3) := by decide +kernel
theorem d_T_isBeginning_8 : decode prog_11_method_7_code 8 = .ok (.ifCond .ne 5, 3) := by decide +kernel
theorem d_T_isBeginning_11 : decode prog_11_method_7_code 11 = .ok (.iconst 1, 1) := by decide +kernel
theorem d_T_isBeginning_12 : decode prog_11_method_7_code 12 = .ok (.ireturn, 1) := by decide +kernel
theorem d_T_isBeginning_13 : decode prog_11_method_7_code 13 = .ok (.aload_n 0, 1) := by decide +kernel
theorem d_T_isBeginning_14 : decode prog_11_method_7_code 14 = .ok (.iload_n 1, 1) := by decide +kernel
theorem d_T_isBeginning_15 : decode prog_11_method_7_code 15 = .ok (.iconst 1, 1) := by decide +kernel
theorem d_T_isBeginning_16 : decode prog_11_method_7_code 16 = .ok (.isub, 1) := by decide +kernel
theorem d_T_isBeginning_17 : decode prog_11_method_7_code 17 = .ok (.invokevirtual 25, 3) := by decide +kernel
theorem d_T_isBeginning_20 : decode prog_11_method_7_code 20 = .ok (.invokestatic 29, 3) := by decide +kernel
theorem d_T_isBeginning_23 : decode prog_11_method_7_code 23 = .ok (.ifCond .eq 9, 3) := by decide +kernel
theorem d_T_isBeginning_26 : decode prog_11_method_7_code 26 = .ok (.iload_n 1, 1) := by decide +kernel
theorem d_T_isBeginning_27 : decode prog_11_method_7_code 27 = .ok (.iconst 2, 1) := by decide +kernel
theorem d_T_isBeginning_28 : decode prog_11_method_7_code 28 = .ok (.isub, 1) := by decide +kernel
theorem d_T_isBeginning_29 : decode prog_11_method_7_code 29 = .ok (.goto 6, 3) := by decide +kernel
theorem d_T_isBeginning_32 : decode prog_11_method_7_code 32 = .ok (.iload_n 1, 1) := by decide +kernel
theorem d_T_isBeginning_33 : decode prog_11_method_7_code 33 = .ok (.iconst 1, 1) := by decide +kernel
theorem d_T_isBeginning_34 : decode prog_11_method_7_code 34 = .ok (.isub, 1) := by decide +kernel
theorem d_T_isBeginning_35 : decode prog_11_method_7_code 35 = .ok (.istore_n 2, 1) := by decide +kernel
theorem d_T_isBeginning_36 : decode prog_11_method_7_code 36 = .ok (.aload_n 0, 1) := by decide +kernel
theorem d_T_isBeginning_37 : decode prog_11_method_7_code 37 = .ok (.iload_n 2, 1) := by decide +kernel
theorem d_T_isBeginning_38 : decode prog_11_method_7_code 38 = .ok (.invokevirtual 25, 3) := by decide +kernel
theorem d_T_isBeginning_41 : decode prog_11_method_7_code 41 = .ok (.invokestatic 35, 3) := by decide +kernel
theorem d_T_isBeginning_44 : decode prog_11_method_7_code 44 = .ok (.ifCond .ne 7, 3) := by decide +kernel
theorem d_T_isBeginning_47 : decode prog_11_method_7_code 47 = .ok (.iconst 1, 1) := by decide +kernel
theorem d_T_isBeginning_48 : decode prog_11_method_7_code 48 = .ok (.goto 4, 3) := by decide +kernel
theorem d_T_isBeginning_51 : decode prog_11_method_7_code 51 = .ok (.iconst 0, 1) := by decide +kernel
theorem d_T_isBeginning_52 : decode prog_11_method_7_code 52 = .ok (.ireturn, 1) := by decide +kernel
theorem d_T_beginningFrom_0 : decode prog_11_method_8_code 0 = .ok (.iload_n 1, 1) := by decide +kernel
theorem d_T_beginningFrom_1 : decode prog_11_method_8_code 1 = .ok (.istore_n 2, 1) := by decide +kernel
theorem d_T_beginningFrom_2 : decode prog_11_method_8_code 2 = .ok (.iload_n 2, 1) := by decide +kernel
theorem d_T_beginningFrom_3 : decode prog_11_method_8_code 3 = .ok (.aload_n 0, 1) := by decide +kernel
theorem d_T_beginningFrom_4 : decode prog_11_method_8_code 4 = .ok (.getfield 15, 3) := by decide +kernel
theorem d_T_beginningFrom_7 : decode prog_11_method_8_code 7 = .ok (.if_icmp .ge 17, 3) := by decide +kernel
theorem d_T_beginningFrom_10 : decode prog_11_method_8_code 10 = .ok (.aload_n 0, 1) := by decide +kernel
theorem d_T_beginningFrom_11 : decode prog_11_method_8_code 11 = .ok (.iload_n 2, 1) := by decide +kernel
theorem d_T_beginningFrom_12 : decode prog_11_method_8_code 12 = .ok (.invokevirtual 38, 3) := by decide +kernel
theorem d_T_beginningFrom_15 : decode prog_11_method_8_code 15 = .ok (.ifCond .ne 9, 3) := by decide +kernel
theorem d_T_beginningFrom_18 : decode prog_11_method_8_code 18 = .ok (.iinc 2 1, 3) := by decide +kernel
theorem d_T_beginningFrom_21 : decode prog_11_method_8_code 21 = .ok (.goto (-19), 3) := by decide +kernel
theorem d_T_beginningFrom_24 : decode prog_11_method_8_code 24 = .ok (.iload_n 2, 1) := by decide +kernel
theorem d_T_beginningFrom_25 : decode prog_11_method_8_code 25 = .ok (.aload_n 0, 1) := by decide +kernel
theorem d_T_beginningFrom_26 : decode prog_11_method_8_code 26 = .ok (.getfield 15, 3) := by decide +kernel
theorem d_T_beginningFrom_29 : decode prog_11_method_8_code 29 = .ok (.invokestatic 41, 3) := by decide +kernel
theorem d_T_beginningFrom_32 : decode prog_11_method_8_code 32 = .ok (.ireturn, 1) := by decide +kernel
theorem d_T_beginningAhead_0 : decode prog_11_method_9_code 0 = .ok (.iload_n 1, 1) := by decide +kernel
theorem d_T_beginningAhead_1 : decode prog_11_method_9_code 1 = .ok (.iconst 1, 1) := by decide +kernel
theorem d_T_beginningAhead_2 : decode prog_11_method_9_code 2 = .ok (.isub, 1) := by decide +kernel
theorem d_T_beginningAhead_3 : decode prog_11_method_9_code 3 = .ok (.istore_n 2, 1) := by decide +kernel
theorem d_T_beginningAhead_4 : decode prog_11_method_9_code 4 = .ok (.iload_n 2, 1) := by decide +kernel
theorem d_T_beginningAhead_5 : decode prog_11_method_9_code 5 = .ok (.ifCond .le 17, 3) := by decide +kernel
theorem d_T_beginningAhead_8 : decode prog_11_method_9_code 8 = .ok (.aload_n 0, 1) := by decide +kernel
theorem d_T_beginningAhead_9 : decode prog_11_method_9_code 9 = .ok (.iload_n 2, 1) := by decide +kernel
theorem d_T_beginningAhead_10 : decode prog_11_method_9_code 10 = .ok (.invokevirtual 38, 3) := by decide +kernel
theorem d_T_beginningAhead_13 : decode prog_11_method_9_code 13 = .ok (.ifCond .ne 9, 3) := by decide +kernel
theorem d_T_beginningAhead_16 : decode prog_11_method_9_code 16 = .ok (.iinc 2 (-1), 3) := by decide +kernel
theorem d_T_beginningAhead_19 : decode prog_11_method_9_code 19 = .ok (.goto (-15), 3) := by decide +kernel
theorem d_T_beginningAhead_22 : decode prog_11_method_9_code 22 = .ok (.iload_n 2, 1) := by decide +kernel
theorem d_T_beginningAhead_23 : decode prog_11_method_9_code 23 = .ok (.iconst 0, 1) := by decide +kernel
theorem d_T_beginningAhead_24 : decode prog_11_method_9_code 24 = .ok (.invokestatic 47, 3) := by decide +kernel
theorem d_T_beginningAhead_27 : decode prog_11_method_9_code 27 = .ok (.ireturn, 1) := by decide +kernel
theorem d_T_lineBeginning_0 : decode prog_11_method_10_code 0 = .ok (.iload_n 1, 1) := by decide +kernel
theorem d_T_lineBeginning_1 : decode prog_11_method_10_code 1 = .ok (.istore_n 2, 1) := by decide +kernel
theorem d_T_lineBeginning_2 : decode prog_11_method_10_code 2 = .ok (.iload_n 2, 1) := by decide +kernel
theorem d_T_lineBeginning_3 : decode prog_11_method_10_code 3 = .ok (.ifCond .le 21, 3) := by decide +kernel
theorem d_T_lineBeginning_6 : decode prog_11_method_10_code 6 = .ok (.aload_n 0, 1) := by decide +kernel
theorem d_T_lineBeginning_7 : decode prog_11_method_10_code 7 = .ok (.iload_n 2, 1) := by decide +kernel
theorem d_T_lineBeginning_8 : decode prog_11_method_10_code 8 = .ok (.iconst 1, 1) := by decide +kernel
theorem d_T_lineBeginning_9 : decode prog_11_method_10_code 9 = .ok (.isub, 1) := by decide +kernel
theorem d_T_lineBeginning_10 : decode prog_11_method_10_code 10 = .ok (.invokevirtual 25, 3) := by decide +kernel
theorem d_T_lineBeginning_13 : decode prog_11_method_10_code 13 = .ok (.bipush 10, 2) := by decide +kernel
theorem d_T_lineBeginning_15 : decode prog_11_method_10_code 15 = .ok (.if_icmp .eq 9, 3) := by decide +kernel
theorem d_T_lineBeginning_18 : decode prog_11_method_10_code 18 = .ok (.iinc 2 (-1), 3) := by decide +kernel
theorem d_T_lineBeginning_21 : decode prog_11_method_10_code 21 = .ok (.goto (-19), 3) := by decide +kernel
theorem d_T_lineBeginning_24 : decode prog_11_method_10_code 24 = .ok (.iload_n 2, 1) := by decide +kernel
theorem d_T_lineBeginning_25 : decode prog_11_method_10_code 25 = .ok (.ireturn, 1) := by decide +kernel
theorem d_T_lineEnd_0 : decode prog_11_method_11_code 0 = .ok (.iload_n 1, 1) := by decide +kernel
theorem d_T_lineEnd_1 : decode prog_11_method_11_code 1 = .ok (.istore_n 2, 1) := by decide +kernel
theorem d_T_lineEnd_2 : decode prog_11_method_11_code 2 = .ok (.iload_n 2, 1) := by decide +kernel
theorem d_T_lineEnd_3 : decode prog_11_method_11_code 3 = .ok (.aload_n 0, 1) := by decide +kernel
theorem d_T_lineEnd_4 : decode prog_11_method_11_code 4 = .ok (.getfield 15, 3) := by decide +kernel
theorem d_T_lineEnd_7 : decode prog_11_method_11_code 7 = .ok (.if_icmp .ge 19, 3) := by decide +kernel
theorem d_T_lineEnd_10 : decode prog_11_method_11_code 10 = .ok (.aload_n 0, 1) := by decide +kernel
theorem d_T_lineEnd_11 : decode prog_11_method_11_code 11 = .ok (.iload_n 2, 1) := by decide +kernel
theorem d_T_lineEnd_12 : decode prog_11_method_11_code 12 = .ok (.invokevirtual 25, 3) := by decide +kernel
theorem d_T_lineEnd_15 : decode prog_11_method_11_code 15 = .ok (.bipush 10, 2) := by decide +kernel
theorem d_T_lineEnd_17 : decode prog_11_method_11_code 17 = .ok (.if_icmp .eq 9, 3) := by decide +kernel
theorem d_T_lineEnd_20 : decode prog_11_method_11_code 20 = .ok (.iinc 2 1, 3) := by decide +kernel
theorem d_T_lineEnd_23 : decode prog_11_method_11_code 23 = .ok (.goto (-21), 3) := by decide +kernel
theorem d_T_lineEnd_26 : decode prog_11_method_11_code 26 = .ok (.iload_n 2, 1) := by decide +kernel
theorem d_T_lineEnd_27 : decode prog_11_method_11_code 27 = .ok (.ireturn, 1) := by decide +kernel
theorem d_T_lineNumber_0 : decode prog_11_method_12_code 0 = .ok (.iconst 1, 1) := by decide +kernel
theorem d_T_lineNumber_1 : decode prog_11_method_12_code 1 = .ok (.istore_n 2, 1) := by decide +kernel
theorem d_T_lineNumber_2 : decode prog_11_method_12_code 2 = .ok (.iconst 0, 1) := by decide +kernel
theorem d_T_lineNumber_3 : decode prog_11_method_12_code 3 = .ok (.istore_n 3, 1) := by decide +kernel
theorem d_T_lineNumber_4 : decode prog_11_method_12_code 4 = .ok (.iload_n 3, 1) := by decide +kernel
theorem d_T_lineNumber_5 : decode prog_11_method_12_code 5 = .ok (.iload_n 1, 1) := by decide +kernel
theorem d_T_lineNumber_6 : decode prog_11_method_12_code 6 = .ok (.if_icmp .ge 22, 3) := by decide +kernel
theorem d_T_lineNumber_9 : decode prog_11_method_12_code 9 = .ok (.aload_n 0, 1) := by decide +kernel
theorem d_T_lineNumber_10 : decode prog_11_method_12_code 10 = .ok (.iload_n 3, 1) := by decide +kernel
theorem d_T_lineNumber_11 : decode prog_11_method_12_code 11 = .ok (.invokevirtual 25, 3) := by decide +kernel
theorem d_T_lineNumber_14 : decode prog_11_method_12_code 14 = .ok (.bipush 10, 2) := by decide +kernel
theorem d_T_lineNumber_16 : decode prog_11_method_12_code 16 = .ok (.if_icmp .ne 6, 3) := by decide +kernel
theorem d_T_lineNumber_19 : decode prog_11_method_12_code 19 = .ok (.iinc 2 1, 3) := by decide +kernel
theorem d_T_lineNumber_22 : decode prog_11_method_12_code 22 = .ok (.iinc 3 1, 3) := by decide +kernel
theorem d_T_lineNumber_25 : decode prog_11_method_12_code 25 = .ok (.goto (-21), 3) := by decide +kernel
theorem d_T_lineNumber_28 : decode prog_11_method_12_code 28 = .ok (.iload_n 2, 1) := by decide +kernel
theorem d_T_lineNumber_29 : decode prog_11_method_12_code 29 = .ok (.ireturn, 1) := by decide +kernel
theorem d_T_clusterAt_0 : decode prog_11_method_13_code 0 = .ok (.aload_n 0, 1) := by decide +kernel
theorem d_T_clusterAt_1 : decode prog_11_method_13_code 1 = .ok (.iload_n 1, 1) := by decide +kernel
theorem d_T_clusterAt_2 : decode prog_11_method_13_code 2 = .ok (.invokevirtual 25, 3) := by decide +kernel
theorem d_T_clusterAt_5 : decode prog_11_method_13_code 5 = .ok (.istore_n 2, 1) := by decide +kernel
theorem d_T_clusterAt_6 : decode prog_11_method_13_code 6 = .ok (.iload_n 2, 1) := by decide +kernel
theorem d_T_clusterAt_7 : decode prog_11_method_13_code 7 = .ok (.bipush 32, 2) := by decide +kernel
theorem d_T_clusterAt_9 : decode prog_11_method_13_code 9 = .ok (.if_icmp .ge 6, 3) := by decide +kernel
theorem d_T_clusterAt_12 : decode prog_11_method_13_code 12 = .ok (.bipush 32, 2) := by decide +kernel
theorem d_T_clusterAt_14 : decode prog_11_method_13_code 14 = .ok (.ireturn, 1) := by decide +kernel
theorem d_T_clusterAt_15 : decode prog_11_method_13_code 15 = .ok (.iload_n 2, 1) := by decide +kernel
theorem d_T_clusterAt_16 : decode prog_11_method_13_code 16 = .ok (.istore_n 3, 1) := by decide +kernel
theorem d_T_clusterAt_17 : decode prog_11_method_13_code 17 = .ok (.aload_n 0, 1) := by decide +kernel
theorem d_T_clusterAt_18 : decode prog_11_method_13_code 18 = .ok (.iload_n 1, 1) := by decide +kernel
theorem d_T_clusterAt_19 : decode prog_11_method_13_code 19 = .ok (.iconst 1, 1) := by decide +kernel
theorem d_T_clusterAt_20 : decode prog_11_method_13_code 20 = .ok (.iadd, 1) := by decide +kernel
theorem d_T_clusterAt_21 : decode prog_11_method_13_code 21 = .ok (.invokevirtual 50, 3) := by decide +kernel
theorem d_T_clusterAt_24 : decode prog_11_method_13_code 24 = .ok (.istore 4, 2) := by decide +kernel
theorem d_T_clusterAt_26 : decode prog_11_method_13_code 26 = .ok (.iload_n 1, 1) := by decide +kernel
theorem d_T_clusterAt_27 : decode prog_11_method_13_code 27 = .ok (.iconst 1, 1) := by decide +kernel
theorem d_T_clusterAt_28 : decode prog_11_method_13_code 28 = .ok (.iadd, 1) := by decide +kernel
theorem d_T_clusterAt_29 : decode prog_11_method_13_code 29 = .ok (.istore 5, 2) := by decide +kernel
theorem d_T_clusterAt_31 : decode prog_11_method_13_code 31 = .ok (.iload 5, 2) := by decide +kernel
theorem d_T_clusterAt_33 : decode prog_11_method_13_code 33 = .ok (.iload 4, 2) := by decide +kernel
theorem d_T_clusterAt_35 : decode prog_11_method_13_code 35 = .ok (.if_icmp .ge 20, 3) := by decide +kernel
theorem d_T_clusterAt_38 : decode prog_11_method_13_code 38 = .ok (.iload_n 3, 1) := by decide +kernel
theorem d_T_clusterAt_39 : decode prog_11_method_13_code 39 = .ok (.aload_n 0, 1) := by decide +kernel
theorem d_T_clusterAt_40 : decode prog_11_method_13_code 40 = .ok (.iload 5, 2) := by decide +kernel
theorem d_T_clusterAt_42 : decode prog_11_method_13_code 42 = .ok (.invokevirtual 25, 3) := by decide +kernel
theorem d_T_clusterAt_45 : decode prog_11_method_13_code 45 = .ok (.invokestatic 53, 3) := by decide +kernel
theorem d_T_clusterAt_48 : decode prog_11_method_13_code 48 = .ok (.istore_n 3, 1) := by decide +kernel
theorem d_T_clusterAt_49 : decode prog_11_method_13_code 49 = .ok (.iinc 5 1, 3) := by decide +kernel
theorem d_T_clusterAt_52 : decode prog_11_method_13_code 52 = .ok (.goto (-21), 3) := by decide +kernel
theorem d_T_clusterAt_55 : decode prog_11_method_13_code 55 = .ok (.iload_n 3, 1) := by decide +kernel
theorem d_T_clusterAt_56 : decode prog_11_method_13_code 56 = .ok (.ireturn, 1) := by decide +kernel
theorem d_H_keepInsertion_0 : decode prog_5_method_2_code 0 = .ok (.aload_n 0, 1) := by decide +kernel
theorem d_H_keepInsertion_1 : decode prog_5_method_2_code 1 = .ok (.invokevirtual 28, 3) := by decide +kernel
theorem d_H_keepInsertion_4 : decode prog_5_method_2_code 4 = .ok (.istore_n 3, 1) := by decide +kernel
theorem d_H_keepInsertion_5 : decode prog_5_method_2_code 5 = .ok (.aload_n 0, 1) := by decide +kernel
theorem d_H_keepInsertion_6 : decode prog_5_method_2_code 6 = .ok (.getfield 9, 3) := by decide +kernel
theorem d_H_keepInsertion_9 : decode prog_5_method_2_code 9 = .ok (.iload_n 3, 1) := by decide +kernel
theorem d_H_keepInsertion_10 : decode prog_5_method_2_code 10 = .ok (.iload_n 1, 1) := by decide +kernel
theorem d_H_keepInsertion_11 : decode prog_5_method_2_code 11 = .ok (.iastore, 1) := by decide +kernel
theorem d_H_keepInsertion_12 : decode prog_5_method_2_code 12 = .ok (.aload_n 0, 1) := by decide +kernel
theorem d_H_keepInsertion_13 : decode prog_5_method_2_code 13 = .ok (.getfield 15, 3) := by decide +kernel
theorem d_H_keepInsertion_16 : decode prog_5_method_2_code 16 = .ok (.iload_n 3, 1) := by decide +kernel
theorem d_H_keepInsertion_17 : decode prog_5_method_2_code 17 = .ok (.iload_n 2, 1) := by decide +kernel
theorem d_H_keepInsertion_18 : decode prog_5_method_2_code 18 = .ok (.iastore, 1) := by decide +kernel
theorem d_H_keepInsertion_19 : decode prog_5_method_2_code 19 = .ok (.aload_n 0, 1) := by decide +kernel
theorem d_H_keepInsertion_20 : decode prog_5_method_2_code 20 = .ok (.getfield 18, 3) := by decide +kernel
theorem d_H_keepInsertion_23 : decode prog_5_method_2_code 23 = .ok (.iload_n 3, 1) := by decide +kernel
theorem d_H_keepInsertion_24 : decode prog_5_method_2_code 24 = .ok (.iload_n 1, 1) := by decide +kernel
theorem d_H_keepInsertion_25 : decode prog_5_method_2_code 25 = .ok (.iastore, 1) := by decide +kernel
theorem d_H_keepInsertion_26 : decode prog_5_method_2_code 26 = .ok (.aload_n 0, 1) := by decide +kernel
theorem d_H_keepInsertion_27 : decode prog_5_method_2_code 27 = .ok (.getfield 21, 3) := by decide +kernel
theorem d_H_keepInsertion_30 : decode prog_5_method_2_code 30 = .ok (.iload_n 3, 1) := by decide +kernel
theorem d_H_keepInsertion_31 : decode prog_5_method_2_code 31 = .ok (.iconst 0, 1) := by decide +kernel
theorem d_H_keepInsertion_32 : decode prog_5_method_2_code 32 = .ok (.bastore, 1) := by decide +kernel
theorem d_H_keepInsertion_33 : decode prog_5_method_2_code 33 = .ok (.return_, 1) := by decide +kernel
theorem d_H_keepRemoval_0 : decode prog_5_method_3_code 0 = .ok (.aload_n 0, 1) := by decide +kernel
theorem d_H_keepRemoval_1 : decode prog_5_method_3_code 1 = .ok (.invokevirtual 28, 3) := by decide +kernel
theorem d_H_keepRemoval_4 : decode prog_5_method_3_code 4 = .ok (.istore 5, 2) := by decide +kernel
theorem d_H_keepRemoval_6 : decode prog_5_method_3_code 6 = .ok (.aload_n 0, 1) := by decide +kernel
theorem d_H_keepRemoval_7 : decode prog_5_method_3_code 7 = .ok (.getfield 9, 3) := by decide +kernel
theorem d_H_keepRemoval_10 : decode prog_5_method_3_code 10 = .ok (.iload 5, 2) := by decide +kernel
theorem d_H_keepRemoval_12 : decode prog_5_method_3_code 12 = .ok (.iload_n 2, 1) := by decide +kernel
theorem d_H_keepRemoval_13 : decode prog_5_method_3_code 13 = .ok (.iastore, 1) := by decide +kernel
theorem d_H_keepRemoval_14 : decode prog_5_method_3_code 14 = .ok (.aload_n 0, 1) := by decide +kernel
theorem d_H_keepRemoval_15 : decode prog_5_method_3_code 15 = .ok (.getfield 15, 3) := by decide +kernel
theorem d_H_keepRemoval_18 : decode prog_5_method_3_code 18 = .ok (.iload 5, 2) := by decide +kernel
theorem d_H_keepRemoval_20 : decode prog_5_method_3_code 20 = .ok (.iload_n 3, 1) := by decide +kernel
theorem d_H_keepRemoval_21 : decode prog_5_method_3_code 21 = .ok (.iastore, 1) := by decide +kernel
theorem d_H_keepRemoval_22 : decode prog_5_method_3_code 22 = .ok (.aload_n 0, 1) := by decide +kernel
theorem d_H_keepRemoval_23 : decode prog_5_method_3_code 23 = .ok (.getfield 18, 3) := by decide +kernel
theorem d_H_keepRemoval_26 : decode prog_5_method_3_code 26 = .ok (.iload 5, 2) := by decide +kernel
theorem d_H_keepRemoval_28 : decode prog_5_method_3_code 28 = .ok (.iload 4, 2) := by decide +kernel
theorem d_H_keepRemoval_30 : decode prog_5_method_3_code 30 = .ok (.iastore, 1) := by decide +kernel
theorem d_H_keepRemoval_31 : decode prog_5_method_3_code 31 = .ok (.aload_n 0, 1) := by decide +kernel
theorem d_H_keepRemoval_32 : decode prog_5_method_3_code 32 = .ok (.getfield 21, 3) := by decide +kernel
theorem d_H_keepRemoval_35 : decode prog_5_method_3_code 35 = .ok (.iload 5, 2) := by decide +kernel
theorem d_H_keepRemoval_37 : decode prog_5_method_3_code 37 = .ok (.iconst 1, 1) := by decide +kernel
theorem d_H_keepRemoval_38 : decode prog_5_method_3_code 38 = .ok (.bastore, 1) := by decide +kernel
theorem d_H_keepRemoval_39 : decode prog_5_method_3_code 39 = .ok (.aload_n 1, 1) := by decide +kernel
theorem d_H_keepRemoval_40 : decode prog_5_method_3_code 40 = .ok (.aload_n 0, 1) := by decide +kernel
theorem d_H_keepRemoval_41 : decode prog_5_method_3_code 41 = .ok (.getfield 25, 3) := by decide +kernel
theorem d_H_keepRemoval_44 : decode prog_5_method_3_code 44 = .ok (.iload 5, 2) := by decide +kernel
theorem d_H_keepRemoval_46 : decode prog_5_method_3_code 46 = .ok (.sipush 200, 3) := by decide +kernel
theorem d_H_keepRemoval_49 : decode prog_5_method_3_code 49 = .ok (.imul, 1) := by decide +kernel
theorem d_H_keepRemoval_50 : decode prog_5_method_3_code 50 = .ok (.iload_n 2, 1) := by decide +kernel
theorem d_H_keepRemoval_51 : decode prog_5_method_3_code 51 = .ok (.iload_n 3, 1) := by decide +kernel
theorem d_H_keepRemoval_52 : decode prog_5_method_3_code 52 = .ok (.invokevirtual 32, 3) := by decide +kernel
theorem d_H_keepRemoval_55 : decode prog_5_method_3_code 55 = .ok (.return_, 1) := by decide +kernel
theorem d_H_undoIn_0 : decode prog_5_method_4_code 0 = .ok (.aload_n 0, 1) := by decide +kernel
theorem d_H_undoIn_1 : decode prog_5_method_4_code 1 = .ok (.getfield 38, 3) := by decide +kernel
theorem d_H_undoIn_4 : decode prog_5_method_4_code 4 = .ok (.ifCond .ne 5, 3) := by decide +kernel
theorem d_H_undoIn_7 : decode prog_5_method_4_code 7 = .ok (.iconst (-1), 1) := by decide +kernel
theorem d_H_undoIn_8 : decode prog_5_method_4_code 8 = .ok (.ireturn, 1) := by decide +kernel
theorem d_H_undoIn_9 : decode prog_5_method_4_code 9 = .ok (.aload_n 0, 1) := by decide +kernel
theorem d_H_undoIn_10 : decode prog_5_method_4_code 10 = .ok (.dup, 1) := by decide +kernel
theorem d_H_undoIn_11 : decode prog_5_method_4_code 11 = .ok (.getfield 38, 3) := by decide +kernel
theorem d_H_undoIn_14 : decode prog_5_method_4_code 14 = .ok (.iconst 1, 1) := by decide +kernel
theorem d_H_undoIn_15 : decode prog_5_method_4_code 15 = .ok (.isub, 1) := by decide +kernel
theorem d_H_undoIn_16 : decode prog_5_method_4_code 16 = .ok (.putfield 38, 3) := by decide +kernel
theorem d_H_undoIn_19 : decode prog_5_method_4_code 19 = .ok (.aload_n 0, 1) := by decide +kernel
theorem d_H_undoIn_20 : decode prog_5_method_4_code 20 = .ok (.getfield 42, 3) := by decide +kernel
theorem d_H_undoIn_23 : decode prog_5_method_4_code 23 = .ok (.aload_n 0, 1) := by decide +kernel
theorem d_H_undoIn_24 : decode prog_5_method_4_code 24 = .ok (.getfield 38, 3) := by decide +kernel
theorem d_H_undoIn_27 : decode prog_5_method_4_code 27 = .ok (.iadd, 1) := by decide +kernel
theorem d_H_undoIn_28 : decode prog_5_method_4_code 28 = .ok (.bipush 12, 2) := by decide +kernel
theorem d_H_undoIn_30 : decode prog_5_method_4_code 30 = .ok (.irem, 1) := by decide +kernel
theorem d_H_undoIn_31 : decode prog_5_method_4_code 31 = .ok (.istore_n 2, 1) := by decide +kernel
theorem d_H_undoIn_32 : decode prog_5_method_4_code 32 = .ok (.aload_n 0, 1) := by decide +kernel
theorem d_H_undoIn_33 : decode prog_5_method_4_code 33 = .ok (.getfield 21, 3) := by decide +kernel
theorem d_H_undoIn_36 : decode prog_5_method_4_code 36 = .ok (.iload_n 2, 1) := by decide +kernel
theorem d_H_undoIn_37 : decode prog_5_method_4_code 37 = .ok (.baload, 1) := by decide +kernel
theorem d_H_undoIn_38 : decode prog_5_method_4_code 38 = .ok (.ifCond .eq 31, 3) := by decide +kernel
theorem d_H_undoIn_41 : decode prog_5_method_4_code 41 = .ok (.aload_n 1, 1) := by decide +kernel
theorem d_H_undoIn_42 : decode prog_5_method_4_code 42 = .ok (.aload_n 0, 1) := by decide +kernel
theorem d_H_undoIn_43 : decode prog_5_method_4_code 43 = .ok (.getfield 9, 3) := by decide +kernel
theorem d_H_undoIn_46 : decode prog_5_method_4_code 46 = .ok (.iload_n 2, 1) := by decide +kernel
theorem d_H_undoIn_47 : decode prog_5_method_4_code 47 = .ok (.iaload, 1) := by decide +kernel
theorem d_H_undoIn_48 : decode prog_5_method_4_code 48 = .ok (.aload_n 0, 1) := by decide +kernel
theorem d_H_undoIn_49 : decode prog_5_method_4_code 49 = .ok (.getfield 25, 3) := by decide +kernel
theorem d_H_undoIn_52 : decode prog_5_method_4_code 52 = .ok (.iload_n 2, 1) := by decide +kernel
theorem d_H_undoIn_53 : decode prog_5_method_4_code 53 = .ok (.sipush 200, 3) := by decide +kernel
theorem d_H_undoIn_56 : decode prog_5_method_4_code 56 = .ok (.imul, 1) := by decide +kernel
theorem d_H_undoIn_57 : decode prog_5_method_4_code 57 = .ok (.aload_n 0, 1) := by decide +kernel
theorem d_H_undoIn_58 : decode prog_5_method_4_code 58 = .ok (.getfield 15, 3) := by decide +kernel
theorem d_H_undoIn_61 : decode prog_5_method_4_code 61 = .ok (.iload_n 2, 1) := by decide +kernel
theorem d_H_undoIn_62 : decode prog_5_method_4_code 62 = .ok (.iaload, 1) := by decide +kernel
theorem d_H_undoIn_63 : decode prog_5_method_4_code 63 = .ok (.invokevirtual 45, 3) := by decide +kernel
theorem d_H_undoIn_66 : decode prog_5_method_4_code 66 = .ok (.goto 19, 3) := by decide +kernel
theorem d_H_undoIn_69 : decode prog_5_method_4_code 69 = .ok (.aload_n 1, 1) := by decide +kernel
theorem d_H_undoIn_70 : decode prog_5_method_4_code 70 = .ok (.aload_n 0, 1) := by decide +kernel
theorem d_H_undoIn_71 : decode prog_5_method_4_code 71 = .ok (.getfield 9, 3) := by decide +kernel
theorem d_H_undoIn_74 : decode prog_5_method_4_code 74 = .ok (.iload_n 2, 1) := by decide +kernel
theorem d_H_undoIn_75 : decode prog_5_method_4_code 75 = .ok (.iaload, 1) := by decide +kernel
theorem d_H_undoIn_76 : decode prog_5_method_4_code 76 = .ok (.aload_n 0, 1) := by decide +kernel
theorem d_H_undoIn_77 : decode prog_5_method_4_code 77 = .ok (.getfield 15, 3) := by decide +kernel
theorem d_H_undoIn_80 : decode prog_5_method_4_code 80 = .ok (.iload_n 2, 1) := by decide +kernel
theorem d_H_undoIn_81 : decode prog_5_method_4_code 81 = .ok (.iaload, 1) := by decide +kernel
theorem d_H_undoIn_82 : decode prog_5_method_4_code 82 = .ok (.invokevirtual 49, 3) := by decide +kernel
theorem d_H_undoIn_85 : decode prog_5_method_4_code 85 = .ok (.aload_n 0, 1) := by decide +kernel
theorem d_H_undoIn_86 : decode prog_5_method_4_code 86 = .ok (.getfield 18, 3) := by decide +kernel
theorem d_H_undoIn_89 : decode prog_5_method_4_code 89 = .ok (.iload_n 2, 1) := by decide +kernel
theorem d_H_undoIn_90 : decode prog_5_method_4_code 90 = .ok (.iaload, 1) := by decide +kernel
theorem d_H_undoIn_91 : decode prog_5_method_4_code 91 = .ok (.ireturn, 1) := by decide +kernel
theorem d_H_newSlot_0 : decode prog_5_method_5_code 0 = .ok (.aload_n 0, 1) := by decide +kernel
theorem d_H_newSlot_1 : decode prog_5_method_5_code 1 = .ok (.getfield 38, 3) := by decide +kernel
theorem d_H_newSlot_4 : decode prog_5_method_5_code 4 = .ok (.bipush 12, 2) := by decide +kernel
theorem d_H_newSlot_6 : decode prog_5_method_5_code 6 = .ok (.if_icmp .ge 16, 3) := by decide +kernel
theorem d_H_newSlot_9 : decode prog_5_method_5_code 9 = .ok (.aload_n 0, 1) := by decide +kernel
theorem d_H_newSlot_10 : decode prog_5_method_5_code 10 = .ok (.dup, 1) := by decide +kernel
theorem d_H_newSlot_11 : decode prog_5_method_5_code 11 = .ok (.getfield 38, 3) := by decide +kernel
theorem d_H_newSlot_14 : decode prog_5_method_5_code 14 = .ok (.iconst 1, 1) := by decide +kernel
theorem d_H_newSlot_15 : decode prog_5_method_5_code 15 = .ok (.iadd, 1) := by decide +kernel
theorem d_H_newSlot_16 : decode prog_5_method_5_code 16 = .ok (.putfield 38, 3) := by decide +kernel
theorem d_H_newSlot_19 : decode prog_5_method_5_code 19 = .ok (.goto 16, 3) := by decide +kernel
theorem d_H_newSlot_22 : decode prog_5_method_5_code 22 = .ok (.aload_n 0, 1) := by decide +kernel
theorem d_H_newSlot_23 : decode prog_5_method_5_code 23 = .ok (.aload_n 0, 1) := by decide +kernel
theorem d_H_newSlot_24 : decode prog_5_method_5_code 24 = .ok (.getfield 42, 3) := by decide +kernel
theorem d_H_newSlot_27 : decode prog_5_method_5_code 27 = .ok (.iconst 1, 1) := by decide +kernel
theorem d_H_newSlot_28 : decode prog_5_method_5_code 28 = .ok (.iadd, 1) := by decide +kernel
theorem d_H_newSlot_29 : decode prog_5_method_5_code 29 = .ok (.bipush 12, 2) := by decide +kernel
theorem d_H_newSlot_31 : decode prog_5_method_5_code 31 = .ok (.irem, 1) := by decide +kernel
theorem d_H_newSlot_32 : decode prog_5_method_5_code 32 = .ok (.putfield 42, 3) := by decide +kernel
theorem d_H_newSlot_35 : decode prog_5_method_5_code 35 = .ok (.aload_n 0, 1) := by decide +kernel
theorem d_H_newSlot_36 : decode prog_5_method_5_code 36 = .ok (.getfield 42, 3) := by decide +kernel
theorem d_H_newSlot_39 : decode prog_5_method_5_code 39 = .ok (.aload_n 0, 1) := by decide +kernel
theorem d_H_newSlot_40 : decode prog_5_method_5_code 40 = .ok (.getfield 38, 3) := by decide +kernel
theorem d_H_newSlot_43 : decode prog_5_method_5_code 43 = .ok (.iadd, 1) := by decide +kernel
theorem d_H_newSlot_44 : decode prog_5_method_5_code 44 = .ok (.iconst 1, 1) := by decide +kernel
theorem d_H_newSlot_45 : decode prog_5_method_5_code 45 = .ok (.isub, 1) := by decide +kernel
theorem d_H_newSlot_46 : decode prog_5_method_5_code 46 = .ok (.bipush 12, 2) := by decide +kernel
theorem d_H_newSlot_48 : decode prog_5_method_5_code 48 = .ok (.irem, 1) := by decide +kernel
theorem d_H_newSlot_49 : decode prog_5_method_5_code 49 = .ok (.ireturn, 1) := by decide +kernel
theorem d_L_lay_0 : decode prog_7_method_2_code 0 = .ok (.iconst 0, 1) := by decide +kernel
theorem d_L_lay_1 : decode prog_7_method_2_code 1 = .ok (.istore_n 3, 1) := by decide +kernel
theorem d_L_lay_2 : decode prog_7_method_2_code 2 = .ok (.iconst 0, 1) := by decide +kernel
theorem d_L_lay_3 : decode prog_7_method_2_code 3 = .ok (.istore 4, 2) := by decide +kernel
theorem d_L_lay_5 : decode prog_7_method_2_code 5 = .ok (.iconst 0, 1) := by decide +kernel
theorem d_L_lay_6 : decode prog_7_method_2_code 6 = .ok (.istore 5, 2) := by decide +kernel
theorem d_L_lay_8 : decode prog_7_method_2_code 8 = .ok (.iload 5, 2) := by decide +kernel
theorem d_L_lay_10 : decode prog_7_method_2_code 10 = .ok (.aload_n 1, 1) := by decide +kernel
theorem d_L_lay_11 : decode prog_7_method_2_code 11 = .ok (.getfield 21, 3) := by decide +kernel
theorem d_L_lay_14 : decode prog_7_method_2_code 14 = .ok (.if_icmp .gt 130, 3) := by decide +kernel
theorem d_L_lay_17 : decode prog_7_method_2_code 17 = .ok (.aload_n 0, 1) := by decide +kernel
theorem d_L_lay_18 : decode prog_7_method_2_code 18 = .ok (.getfield 9, 3) := by decide +kernel
theorem d_L_lay_21 : decode prog_7_method_2_code 21 = .ok (.iload 5, 2) := by decide +kernel
theorem d_L_lay_23 : decode prog_7_method_2_code 23 = .ok (.iconst (-1), 1) := by decide +kernel
theorem d_L_lay_24 : decode prog_7_method_2_code 24 = .ok (.iastore, 1) := by decide +kernel
theorem d_L_lay_25 : decode prog_7_method_2_code 25 = .ok (.aload_n 1, 1) := by decide +kernel
theorem d_L_lay_26 : decode prog_7_method_2_code 26 = .ok (.iload 5, 2) := by decide +kernel
theorem d_L_lay_28 : decode prog_7_method_2_code 28 = .ok (.invokevirtual 27, 3) := by decide +kernel
theorem d_L_lay_31 : decode prog_7_method_2_code 31 = .ok (.ifCond .ne 6, 3) := by decide +kernel
theorem d_L_lay_34 : decode prog_7_method_2_code 34 = .ok (.goto 104, 3) := by decide +kernel
theorem d_L_lay_37 : decode prog_7_method_2_code 37 = .ok (.aload_n 1, 1) := by decide +kernel
theorem d_L_lay_38 : decode prog_7_method_2_code 38 = .ok (.iload 5, 2) := by decide +kernel
theorem d_L_lay_40 : decode prog_7_method_2_code 40 = .ok (.invokevirtual 31, 3) := by decide +kernel
theorem d_L_lay_43 : decode prog_7_method_2_code 43 = .ok (.istore 6, 2) := by decide +kernel
theorem d_L_lay_45 : decode prog_7_method_2_code 45 = .ok (.iload 6, 2) := by decide +kernel
theorem d_L_lay_47 : decode prog_7_method_2_code 47 = .ok (.invokestatic 35, 3) := by decide +kernel
theorem d_L_lay_50 : decode prog_7_method_2_code 50 = .ok (.istore 7, 2) := by decide +kernel
theorem d_L_lay_52 : decode prog_7_method_2_code 52 = .ok (.iload 4, 2) := by decide +kernel
theorem d_L_lay_54 : decode prog_7_method_2_code 54 = .ok (.iload 7, 2) := by decide +kernel
theorem d_L_lay_56 : decode prog_7_method_2_code 56 = .ok (.iadd, 1) := by decide +kernel
theorem d_L_lay_57 : decode prog_7_method_2_code 57 = .ok (.iload_n 2, 1) := by decide +kernel
theorem d_L_lay_58 : decode prog_7_method_2_code 58 = .ok (.if_icmp .le 9, 3) := by decide +kernel
theorem d_L_lay_61 : decode prog_7_method_2_code 61 = .ok (.iinc 3 1, 3) := by decide +kernel
theorem d_L_lay_64 : decode prog_7_method_2_code 64 = .ok (.iconst 0, 1) := by decide +kernel
theorem d_L_lay_65 : decode prog_7_method_2_code 65 = .ok (.istore 4, 2) := by decide +kernel
theorem d_L_lay_67 : decode prog_7_method_2_code 67 = .ok (.iload 6, 2) := by decide +kernel
theorem d_L_lay_69 : decode prog_7_method_2_code 69 = .ok (.bipush 9, 2) := by decide +kernel
theorem d_L_lay_71 : decode prog_7_method_2_code 71 = .ok (.if_icmp .ne 21, 3) := by decide +kernel
theorem d_L_lay_74 : decode prog_7_method_2_code 74 = .ok (.iload_n 2, 1) := by decide +kernel
theorem d_L_lay_75 : decode prog_7_method_2_code 75 = .ok (.iload 4, 2) := by decide +kernel
theorem d_L_lay_77 : decode prog_7_method_2_code 77 = .ok (.iload 4, 2) := by decide +kernel
theorem d_L_lay_79 : decode prog_7_method_2_code 79 = .ok (.iconst 4, 1) := by decide +kernel
theorem d_L_lay_80 : decode prog_7_method_2_code 80 = .ok (.irem, 1) := by decide +kernel
theorem d_L_lay_81 : decode prog_7_method_2_code 81 = .ok (.isub, 1) := by decide +kernel
theorem d_L_lay_82 : decode prog_7_method_2_code 82 = .ok (.iconst 4, 1) := by decide +kernel
theorem d_L_lay_83 : decode prog_7_method_2_code 83 = .ok (.iadd, 1) := by decide +kernel
theorem d_L_lay_84 : decode prog_7_method_2_code 84 = .ok (.invokestatic 39, 3) := by decide +kernel
theorem d_L_lay_87 : decode prog_7_method_2_code 87 = .ok (.iload 4, 2) := by decide +kernel
theorem d_L_lay_89 : decode prog_7_method_2_code 89 = .ok (.isub, 1) := by decide +kernel
theorem d_L_lay_90 : decode prog_7_method_2_code 90 = .ok (.istore 7, 2) := by decide +kernel
theorem d_L_lay_92 : decode prog_7_method_2_code 92 = .ok (.aload_n 0, 1) := by decide +kernel
theorem d_L_lay_93 : decode prog_7_method_2_code 93 = .ok (.getfield 9, 3) := by decide +kernel
theorem d_L_lay_96 : decode prog_7_method_2_code 96 = .ok (.iload 5, 2) := by decide +kernel
theorem d_L_lay_98 : decode prog_7_method_2_code 98 = .ok (.iload_n 3, 1) := by decide +kernel
theorem d_L_lay_99 : decode prog_7_method_2_code 99 = .ok (.iastore, 1) := by decide +kernel
theorem d_L_lay_100 : decode prog_7_method_2_code 100 = .ok (.aload_n 0, 1) := by decide +kernel
theorem d_L_lay_101 : decode prog_7_method_2_code 101 = .ok (.getfield 15, 3) := by decide +kernel
theorem d_L_lay_104 : decode prog_7_method_2_code 104 = .ok (.iload 5, 2) := by decide +kernel
theorem d_L_lay_106 : decode prog_7_method_2_code 106 = .ok (.iload 4, 2) := by decide +kernel
theorem d_L_lay_108 : decode prog_7_method_2_code 108 = .ok (.iastore, 1) := by decide +kernel
theorem d_L_lay_109 : decode prog_7_method_2_code 109 = .ok (.aload_n 0, 1) := by decide +kernel
theorem d_L_lay_110 : decode prog_7_method_2_code 110 = .ok (.getfield 18, 3) := by decide +kernel
theorem d_L_lay_113 : decode prog_7_method_2_code 113 = .ok (.iload 5, 2) := by decide +kernel
theorem d_L_lay_115 : decode prog_7_method_2_code 115 = .ok (.iload 7, 2) := by decide +kernel
theorem d_L_lay_117 : decode prog_7_method_2_code 117 = .ok (.iastore, 1) := by decide +kernel
theorem d_L_lay_118 : decode prog_7_method_2_code 118 = .ok (.iload 4, 2) := by decide +kernel
theorem d_L_lay_120 : decode prog_7_method_2_code 120 = .ok (.iload 7, 2) := by decide +kernel
theorem d_L_lay_122 : decode prog_7_method_2_code 122 = .ok (.iadd, 1) := by decide +kernel
theorem d_L_lay_123 : decode prog_7_method_2_code 123 = .ok (.istore 4, 2) := by decide +kernel
theorem d_L_lay_125 : decode prog_7_method_2_code 125 = .ok (.iload 6, 2) := by decide +kernel
theorem d_L_lay_127 : decode prog_7_method_2_code 127 = .ok (.bipush 10, 2) := by decide +kernel
theorem d_L_lay_129 : decode prog_7_method_2_code 129 = .ok (.if_icmp .ne 9, 3) := by decide +kernel
theorem d_L_lay_132 : decode prog_7_method_2_code 132 = .ok (.iinc 3 1, 3) := by decide +kernel
theorem d_L_lay_135 : decode prog_7_method_2_code 135 = .ok (.iconst 0, 1) := by decide +kernel
theorem d_L_lay_136 : decode prog_7_method_2_code 136 = .ok (.istore 4, 2) := by decide +kernel
theorem d_L_lay_138 : decode prog_7_method_2_code 138 = .ok (.iinc 5 1, 3) := by decide +kernel
theorem d_L_lay_141 : decode prog_7_method_2_code 141 = .ok (.goto (-133), 3) := by decide +kernel
theorem d_L_lay_144 : decode prog_7_method_2_code 144 = .ok (.return_, 1) := by decide +kernel
theorem d_L_placeIn_0 : decode prog_7_method_3_code 0 = .ok (.iconst (-1), 1) := by decide +kernel
theorem d_L_placeIn_1 : decode prog_7_method_3_code 1 = .ok (.istore 4, 2) := by decide +kernel
theorem d_L_placeIn_3 : decode prog_7_method_3_code 3 = .ok (.iconst 0, 1) := by decide +kernel
theorem d_L_placeIn_4 : decode prog_7_method_3_code 4 = .ok (.istore 5, 2) := by decide +kernel
theorem d_L_placeIn_6 : decode prog_7_method_3_code 6 = .ok (.iload 5, 2) := by decide +kernel
theorem d_L_placeIn_8 : decode prog_7_method_3_code 8 = .ok (.aload_n 1, 1) := by decide +kernel
theorem d_L_placeIn_9 : decode prog_7_method_3_code 9 = .ok (.getfield 21, 3) := by decide +kernel
theorem d_L_placeIn_12 : decode prog_7_method_3_code 12 = .ok (.if_icmp .gt 45, 3) := by decide +kernel
theorem d_L_placeIn_15 : decode prog_7_method_3_code 15 = .ok (.iload_n 2, 1) := by decide +kernel
theorem d_L_placeIn_16 : decode prog_7_method_3_code 16 = .ok (.ifCond .lt 35, 3) := by decide +kernel
theorem d_L_placeIn_19 : decode prog_7_method_3_code 19 = .ok (.aload_n 0, 1) := by decide +kernel
theorem d_L_placeIn_20 : decode prog_7_method_3_code 20 = .ok (.getfield 9, 3) := by decide +kernel
theorem d_L_placeIn_23 : decode prog_7_method_3_code 23 = .ok (.iload 5, 2) := by decide +kernel
theorem d_L_placeIn_25 : decode prog_7_method_3_code 25 = .ok (.iaload, 1) := by decide +kernel
theorem d_L_placeIn_26 : decode prog_7_method_3_code 26 = .ok (.iload_n 2, 1) := by decide +kernel
theorem d_L_placeIn_27 : decode prog_7_method_3_code 27 = .ok (.if_icmp .ne 24, 3) := by decide +kernel
theorem d_L_placeIn_30 : decode prog_7_method_3_code 30 = .ok (.iload 4, 2) := by decide +kernel
theorem d_L_placeIn_32 : decode prog_7_method_3_code 32 = .ok (.iconst (-1), 1) := by decide +kernel
theorem d_L_placeIn_33 : decode prog_7_method_3_code 33 = .ok (.if_icmp .eq 14, 3) := by decide +kernel
theorem d_L_placeIn_36 : decode prog_7_method_3_code 36 = .ok (.aload_n 0, 1) := by decide +kernel
theorem d_L_placeIn_37 : decode prog_7_method_3_code 37 = .ok (.getfield 15, 3) := by decide +kernel
theorem d_L_placeIn_40 : decode prog_7_method_3_code 40 = .ok (.iload 5, 2) := by decide +kernel
theorem d_L_placeIn_42 : decode prog_7_method_3_code 42 = .ok (.iaload, 1) := by decide +kernel
theorem d_L_placeIn_43 : decode prog_7_method_3_code 43 = .ok (.iload_n 3, 1) := by decide +kernel
theorem d_L_placeIn_44 : decode prog_7_method_3_code 44 = .ok (.if_icmp .gt 7, 3) := by decide +kernel
theorem d_L_placeIn_47 : decode prog_7_method_3_code 47 = .ok (.iload 5, 2) := by decide +kernel
theorem d_L_placeIn_49 : decode prog_7_method_3_code 49 = .ok (.istore 4, 2) := by decide +kernel
theorem d_L_placeIn_51 : decode prog_7_method_3_code 51 = .ok (.iinc 5 1, 3) := by decide +kernel
theorem d_L_placeIn_54 : decode prog_7_method_3_code 54 = .ok (.goto (-48), 3) := by decide +kernel
theorem d_L_placeIn_57 : decode prog_7_method_3_code 57 = .ok (.iload 4, 2) := by decide +kernel
theorem d_L_placeIn_59 : decode prog_7_method_3_code 59 = .ok (.ireturn, 1) := by decide +kernel
