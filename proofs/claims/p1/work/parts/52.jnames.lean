/-! the JDK's methods, by program -/
abbrev m_B_setLength : pe_Y := (⟨"java/lang/StringBuilder", "setLength", "(I)V"⟩, prog_19_method_89_code, 2, (Option.none : Option FieldType), 2, 43)
theorem d_B_setLength_0 : decode prog_19_method_89_code 0 = .ok (.aload_n 0, 1) := by decide +kernel
theorem d_B_setLength_1 : decode prog_19_method_89_code 1 = .ok (.iload_n 1, 1) := by decide +kernel
theorem d_B_setLength_2 : decode prog_19_method_89_code 2 = .ok (.invokespecial 333, 3) := by decide +kernel
theorem d_B_setLength_5 : decode prog_19_method_89_code 5 = .ok (.return_, 1) := by decide +kernel
abbrev m_AB_setLength : pe_Y := (⟨"java/lang/AbstractStringBuilder", "setLength", "(I)V"⟩, prog_14_method_13_code, 2, (Option.none : Option FieldType), 1, 22)
theorem d_AB_setLength_0 : decode prog_14_method_13_code 0 = .ok (.iload_n 1, 1) := by decide +kernel
theorem d_AB_setLength_1 : decode prog_14_method_13_code 1 = .ok (.ifCond .ge 12, 3) := by decide +kernel
theorem d_AB_setLength_4 : decode prog_14_method_13_code 4 = .ok (.new 129, 3) := by decide +kernel
theorem d_AB_setLength_7 : decode prog_14_method_13_code 7 = .ok (.dup, 1) := by decide +kernel
theorem d_AB_setLength_8 : decode prog_14_method_13_code 8 = .ok (.iload_n 1, 1) := by decide +kernel
theorem d_AB_setLength_9 : decode prog_14_method_13_code 9 = .ok (.invokespecial 131, 3) := by decide +kernel
theorem d_AB_setLength_12 : decode prog_14_method_13_code 12 = .ok (.athrow, 1) := by decide +kernel
theorem d_AB_setLength_13 : decode prog_14_method_13_code 13 = .ok (.aload_n 0, 1) := by decide +kernel
theorem d_AB_setLength_14 : decode prog_14_method_13_code 14 = .ok (.iload_n 1, 1) := by decide +kernel
theorem d_AB_setLength_15 : decode prog_14_method_13_code 15 = .ok (.invokevirtual 100, 3) := by decide +kernel
theorem d_AB_setLength_18 : decode prog_14_method_13_code 18 = .ok (.aload_n 0, 1) := by decide +kernel
theorem d_AB_setLength_19 : decode prog_14_method_13_code 19 = .ok (.getfield 79, 3) := by decide +kernel
theorem d_AB_setLength_22 : decode prog_14_method_13_code 22 = .ok (.iload_n 1, 1) := by decide +kernel
theorem d_AB_setLength_23 : decode prog_14_method_13_code 23 = .ok (.if_icmp .ge 40, 3) := by decide +kernel
theorem d_AB_setLength_26 : decode prog_14_method_13_code 26 = .ok (.aload_n 0, 1) := by decide +kernel
theorem d_AB_setLength_27 : decode prog_14_method_13_code 27 = .ok (.invokevirtual 83, 3) := by decide +kernel
theorem d_AB_setLength_30 : decode prog_14_method_13_code 30 = .ok (.ifCond .eq 18, 3) := by decide +kernel
theorem d_AB_setLength_33 : decode prog_14_method_13_code 33 = .ok (.aload_n 0, 1) := by decide +kernel
theorem d_AB_setLength_34 : decode prog_14_method_13_code 34 = .ok (.getfield 15, 3) := by decide +kernel
theorem d_AB_setLength_37 : decode prog_14_method_13_code 37 = .ok (.aload_n 0, 1) := by decide +kernel
theorem d_AB_setLength_38 : decode prog_14_method_13_code 38 = .ok (.getfield 79, 3) := by decide +kernel
theorem d_AB_setLength_41 : decode prog_14_method_13_code 41 = .ok (.iload_n 1, 1) := by decide +kernel
theorem d_AB_setLength_42 : decode prog_14_method_13_code 42 = .ok (.invokestatic 133, 3) := by decide +kernel
theorem d_AB_setLength_45 : decode prog_14_method_13_code 45 = .ok (.goto 31, 3) := by decide +kernel
theorem d_AB_setLength_48 : decode prog_14_method_13_code 48 = .ok (.aload_n 0, 1) := by decide +kernel
theorem d_AB_setLength_49 : decode prog_14_method_13_code 49 = .ok (.getfield 15, 3) := by decide +kernel
theorem d_AB_setLength_52 : decode prog_14_method_13_code 52 = .ok (.aload_n 0, 1) := by decide +kernel
theorem d_AB_setLength_53 : decode prog_14_method_13_code 53 = .ok (.getfield 79, 3) := by decide +kernel
theorem d_AB_setLength_56 : decode prog_14_method_13_code 56 = .ok (.iload_n 1, 1) := by decide +kernel
theorem d_AB_setLength_57 : decode prog_14_method_13_code 57 = .ok (.invokestatic 137, 3) := by decide +kernel
theorem d_AB_setLength_60 : decode prog_14_method_13_code 60 = .ok (.goto 16, 3) := by decide +kernel
theorem d_AB_setLength_63 : decode prog_14_method_13_code 63 = .ok (.aload_n 0, 1) := by decide +kernel
theorem d_AB_setLength_64 : decode prog_14_method_13_code 64 = .ok (.getfield 79, 3) := by decide +kernel
theorem d_AB_setLength_67 : decode prog_14_method_13_code 67 = .ok (.iload_n 1, 1) := by decide +kernel
theorem d_AB_setLength_68 : decode prog_14_method_13_code 68 = .ok (.if_icmp .le 8, 3) := by decide +kernel
theorem d_AB_setLength_71 : decode prog_14_method_13_code 71 = .ok (.aload_n 0, 1) := by decide +kernel
theorem d_AB_setLength_72 : decode prog_14_method_13_code 72 = .ok (.iconst 1, 1) := by decide +kernel
theorem d_AB_setLength_73 : decode prog_14_method_13_code 73 = .ok (.putfield 73, 3) := by decide +kernel
theorem d_AB_setLength_76 : decode prog_14_method_13_code 76 = .ok (.aload_n 0, 1) := by decide +kernel
theorem d_AB_setLength_77 : decode prog_14_method_13_code 77 = .ok (.iload_n 1, 1) := by decide +kernel
theorem d_AB_setLength_78 : decode prog_14_method_13_code 78 = .ok (.putfield 79, 3) := by decide +kernel
theorem d_AB_setLength_81 : decode prog_14_method_13_code 81 = .ok (.return_, 1) := by decide +kernel
abbrev m_AB_ensureCapacityInternal : pe_Y := (⟨"java/lang/AbstractStringBuilder", "ensureCapacityInternal", "(I)V"⟩, prog_14_method_9_code, 3, (Option.none : Option FieldType), 0, 0)
theorem d_AB_ensureCapacityInternal_0 : decode prog_14_method_9_code 0 = .ok (.aload_n 0, 1) := by decide +kernel
theorem d_AB_ensureCapacityInternal_1 : decode prog_14_method_9_code 1 = .ok (.getfield 15, 3) := by decide +kernel
theorem d_AB_ensureCapacityInternal_4 : decode prog_14_method_9_code 4 = .ok (.arraylength, 1) := by decide +kernel
theorem d_AB_ensureCapacityInternal_5 : decode prog_14_method_9_code 5 = .ok (.aload_n 0, 1) := by decide +kernel
theorem d_AB_ensureCapacityInternal_6 : decode prog_14_method_9_code 6 = .ok (.getfield 22, 3) := by decide +kernel
theorem d_AB_ensureCapacityInternal_9 : decode prog_14_method_9_code 9 = .ok (.ishr, 1) := by decide +kernel
theorem d_AB_ensureCapacityInternal_10 : decode prog_14_method_9_code 10 = .ok (.istore_n 2, 1) := by decide +kernel
theorem d_AB_ensureCapacityInternal_11 : decode prog_14_method_9_code 11 = .ok (.iload_n 1, 1) := by decide +kernel
theorem d_AB_ensureCapacityInternal_12 : decode prog_14_method_9_code 12 = .ok (.iload_n 2, 1) := by decide +kernel
theorem d_AB_ensureCapacityInternal_13 : decode prog_14_method_9_code 13 = .ok (.isub, 1) := by decide +kernel
theorem d_AB_ensureCapacityInternal_14 : decode prog_14_method_9_code 14 = .ok (.ifCond .le 24, 3) := by decide +kernel
theorem d_AB_ensureCapacityInternal_17 : decode prog_14_method_9_code 17 = .ok (.aload_n 0, 1) := by decide +kernel
theorem d_AB_ensureCapacityInternal_18 : decode prog_14_method_9_code 18 = .ok (.aload_n 0, 1) := by decide +kernel
theorem d_AB_ensureCapacityInternal_19 : decode prog_14_method_9_code 19 = .ok (.getfield 15, 3) := by decide +kernel
theorem d_AB_ensureCapacityInternal_22 : decode prog_14_method_9_code 22 = .ok (.aload_n 0, 1) := by decide +kernel
theorem d_AB_ensureCapacityInternal_23 : decode prog_14_method_9_code 23 = .ok (.iload_n 1, 1) := by decide +kernel
theorem d_AB_ensureCapacityInternal_24 : decode prog_14_method_9_code 24 = .ok (.invokevirtual 104, 3) := by decide +kernel
theorem d_AB_ensureCapacityInternal_27 : decode prog_14_method_9_code 27 = .ok (.aload_n 0, 1) := by decide +kernel
theorem d_AB_ensureCapacityInternal_28 : decode prog_14_method_9_code 28 = .ok (.getfield 22, 3) := by decide +kernel
theorem d_AB_ensureCapacityInternal_31 : decode prog_14_method_9_code 31 = .ok (.ishl, 1) := by decide +kernel
theorem d_AB_ensureCapacityInternal_32 : decode prog_14_method_9_code 32 = .ok (.invokestatic 108, 3) := by decide +kernel
theorem d_AB_ensureCapacityInternal_35 : decode prog_14_method_9_code 35 = .ok (.putfield 15, 3) := by decide +kernel
theorem d_AB_ensureCapacityInternal_38 : decode prog_14_method_9_code 38 = .ok (.return_, 1) := by decide +kernel
abbrev m_AB_isLatin1 : pe_Y := (⟨"java/lang/AbstractStringBuilder", "isLatin1", "()Z"⟩, prog_14_method_68_code, 1, (Option.some FieldType.boolean), 0, 0)
theorem d_AB_isLatin1_0 : decode prog_14_method_68_code 0 = .ok (.getstatic 18, 3) := by decide +kernel
theorem d_AB_isLatin1_3 : decode prog_14_method_68_code 3 = .ok (.ifCond .eq 14, 3) := by decide +kernel
theorem d_AB_isLatin1_6 : decode prog_14_method_68_code 6 = .ok (.aload_n 0, 1) := by decide +kernel
theorem d_AB_isLatin1_7 : decode prog_14_method_68_code 7 = .ok (.getfield 22, 3) := by decide +kernel
theorem d_AB_isLatin1_10 : decode prog_14_method_68_code 10 = .ok (.ifCond .ne 7, 3) := by decide +kernel
theorem d_AB_isLatin1_13 : decode prog_14_method_68_code 13 = .ok (.iconst 1, 1) := by decide +kernel
theorem d_AB_isLatin1_14 : decode prog_14_method_68_code 14 = .ok (.goto 4, 3) := by decide +kernel
theorem d_AB_isLatin1_17 : decode prog_14_method_68_code 17 = .ok (.iconst 0, 1) := by decide +kernel
theorem d_AB_isLatin1_18 : decode prog_14_method_68_code 18 = .ok (.ireturn, 1) := by decide +kernel
abbrev m_B_append : pe_Y := (⟨"java/lang/StringBuilder", "append", "(I)Ljava/lang/StringBuilder;"⟩, prog_19_method_15_code, 2, (Option.some (FieldType.object "java/lang/StringBuilder")), 2, 49)
theorem d_B_append_0 : decode prog_19_method_15_code 0 = .ok (.aload_n 0, 1) := by decide +kernel
theorem d_B_append_1 : decode prog_19_method_15_code 1 = .ok (.iload_n 1, 1) := by decide +kernel
theorem d_B_append_2 : decode prog_19_method_15_code 2 = .ok (.invokespecial 53, 3) := by decide +kernel
theorem d_B_append_5 : decode prog_19_method_15_code 5 = .ok (.pop, 1) := by decide +kernel
theorem d_B_append_6 : decode prog_19_method_15_code 6 = .ok (.aload_n 0, 1) := by decide +kernel
theorem d_B_append_7 : decode prog_19_method_15_code 7 = .ok (.areturn, 1) := by decide +kernel
abbrev m_AB_append : pe_Y := (⟨"java/lang/AbstractStringBuilder", "append", "(I)Ljava/lang/AbstractStringBuilder;"⟩, prog_14_method_32_code, 4, (Option.some (FieldType.object "java/lang/AbstractStringBuilder")), 1, 26)
theorem d_AB_append_0 : decode prog_14_method_32_code 0 = .ok (.aload_n 0, 1) := by decide +kernel
theorem d_AB_append_1 : decode prog_14_method_32_code 1 = .ok (.getfield 79, 3) := by decide +kernel
theorem d_AB_append_4 : decode prog_14_method_32_code 4 = .ok (.istore_n 2, 1) := by decide +kernel
theorem d_AB_append_5 : decode prog_14_method_32_code 5 = .ok (.iload_n 2, 1) := by decide +kernel
theorem d_AB_append_6 : decode prog_14_method_32_code 6 = .ok (.iload_n 1, 1) := by decide +kernel
theorem d_AB_append_7 : decode prog_14_method_32_code 7 = .ok (.invokestatic 245, 3) := by decide +kernel
theorem d_AB_append_10 : decode prog_14_method_32_code 10 = .ok (.iadd, 1) := by decide +kernel
theorem d_AB_append_11 : decode prog_14_method_32_code 11 = .ok (.istore_n 3, 1) := by decide +kernel
theorem d_AB_append_12 : decode prog_14_method_32_code 12 = .ok (.aload_n 0, 1) := by decide +kernel
theorem d_AB_append_13 : decode prog_14_method_32_code 13 = .ok (.iload_n 3, 1) := by decide +kernel
theorem d_AB_append_14 : decode prog_14_method_32_code 14 = .ok (.invokevirtual 100, 3) := by decide +kernel
theorem d_AB_append_17 : decode prog_14_method_32_code 17 = .ok (.aload_n 0, 1) := by decide +kernel
theorem d_AB_append_18 : decode prog_14_method_32_code 18 = .ok (.invokevirtual 83, 3) := by decide +kernel
theorem d_AB_append_21 : decode prog_14_method_32_code 21 = .ok (.ifCond .eq 16, 3) := by decide +kernel
theorem d_AB_append_24 : decode prog_14_method_32_code 24 = .ok (.iload_n 1, 1) := by decide +kernel
theorem d_AB_append_25 : decode prog_14_method_32_code 25 = .ok (.iload_n 3, 1) := by decide +kernel
theorem d_AB_append_26 : decode prog_14_method_32_code 26 = .ok (.aload_n 0, 1) := by decide +kernel
theorem d_AB_append_27 : decode prog_14_method_32_code 27 = .ok (.getfield 15, 3) := by decide +kernel
theorem d_AB_append_30 : decode prog_14_method_32_code 30 = .ok (.invokestatic 248, 3) := by decide +kernel
theorem d_AB_append_33 : decode prog_14_method_32_code 33 = .ok (.pop, 1) := by decide +kernel
theorem d_AB_append_34 : decode prog_14_method_32_code 34 = .ok (.goto 14, 3) := by decide +kernel
theorem d_AB_append_37 : decode prog_14_method_32_code 37 = .ok (.iload_n 1, 1) := by decide +kernel
theorem d_AB_append_38 : decode prog_14_method_32_code 38 = .ok (.iload_n 2, 1) := by decide +kernel
theorem d_AB_append_39 : decode prog_14_method_32_code 39 = .ok (.iload_n 3, 1) := by decide +kernel
theorem d_AB_append_40 : decode prog_14_method_32_code 40 = .ok (.aload_n 0, 1) := by decide +kernel
theorem d_AB_append_41 : decode prog_14_method_32_code 41 = .ok (.getfield 15, 3) := by decide +kernel
theorem d_AB_append_44 : decode prog_14_method_32_code 44 = .ok (.invokestatic 251, 3) := by decide +kernel
theorem d_AB_append_47 : decode prog_14_method_32_code 47 = .ok (.pop, 1) := by decide +kernel
theorem d_AB_append_48 : decode prog_14_method_32_code 48 = .ok (.aload_n 0, 1) := by decide +kernel
theorem d_AB_append_49 : decode prog_14_method_32_code 49 = .ok (.iload_n 3, 1) := by decide +kernel
theorem d_AB_append_50 : decode prog_14_method_32_code 50 = .ok (.putfield 79, 3) := by decide +kernel
theorem d_AB_append_53 : decode prog_14_method_32_code 53 = .ok (.aload_n 0, 1) := by decide +kernel
theorem d_AB_append_54 : decode prog_14_method_32_code 54 = .ok (.areturn, 1) := by decide +kernel
abbrev m_I_stringSize : pe_Y := (⟨"java/lang/Integer", "stringSize", "(I)I"⟩, prog_16_method_13_code, 4, (Option.some FieldType.int), 0, 0)
theorem d_I_stringSize_0 : decode prog_16_method_13_code 0 = .ok (.iconst 1, 1) := by decide +kernel
theorem d_I_stringSize_1 : decode prog_16_method_13_code 1 = .ok (.istore_n 1, 1) := by decide +kernel
theorem d_I_stringSize_2 : decode prog_16_method_13_code 2 = .ok (.iload_n 0, 1) := by decide +kernel
theorem d_I_stringSize_3 : decode prog_16_method_13_code 3 = .ok (.ifCond .lt 8, 3) := by decide +kernel
theorem d_I_stringSize_6 : decode prog_16_method_13_code 6 = .ok (.iconst 0, 1) := by decide +kernel
theorem d_I_stringSize_7 : decode prog_16_method_13_code 7 = .ok (.istore_n 1, 1) := by decide +kernel
theorem d_I_stringSize_8 : decode prog_16_method_13_code 8 = .ok (.iload_n 0, 1) := by decide +kernel
theorem d_I_stringSize_9 : decode prog_16_method_13_code 9 = .ok (.ineg, 1) := by decide +kernel
theorem d_I_stringSize_10 : decode prog_16_method_13_code 10 = .ok (.istore_n 0, 1) := by decide +kernel
theorem d_I_stringSize_11 : decode prog_16_method_13_code 11 = .ok (.bipush (-10), 2) := by decide +kernel
theorem d_I_stringSize_13 : decode prog_16_method_13_code 13 = .ok (.istore_n 2, 1) := by decide +kernel
theorem d_I_stringSize_14 : decode prog_16_method_13_code 14 = .ok (.iconst 1, 1) := by decide +kernel
theorem d_I_stringSize_15 : decode prog_16_method_13_code 15 = .ok (.istore_n 3, 1) := by decide +kernel
theorem d_I_stringSize_16 : decode prog_16_method_13_code 16 = .ok (.iload_n 3, 1) := by decide +kernel
theorem d_I_stringSize_17 : decode prog_16_method_13_code 17 = .ok (.bipush 10, 2) := by decide +kernel
theorem d_I_stringSize_19 : decode prog_16_method_13_code 19 = .ok (.if_icmp .ge 23, 3) := by decide +kernel
theorem d_I_stringSize_22 : decode prog_16_method_13_code 22 = .ok (.iload_n 0, 1) := by decide +kernel
theorem d_I_stringSize_23 : decode prog_16_method_13_code 23 = .ok (.iload_n 2, 1) := by decide +kernel
theorem d_I_stringSize_24 : decode prog_16_method_13_code 24 = .ok (.if_icmp .le 7, 3) := by decide +kernel
theorem d_I_stringSize_27 : decode prog_16_method_13_code 27 = .ok (.iload_n 3, 1) := by decide +kernel
theorem d_I_stringSize_28 : decode prog_16_method_13_code 28 = .ok (.iload_n 1, 1) := by decide +kernel
theorem d_I_stringSize_29 : decode prog_16_method_13_code 29 = .ok (.iadd, 1) := by decide +kernel
theorem d_I_stringSize_30 : decode prog_16_method_13_code 30 = .ok (.ireturn, 1) := by decide +kernel
theorem d_I_stringSize_31 : decode prog_16_method_13_code 31 = .ok (.bipush 10, 2) := by decide +kernel
theorem d_I_stringSize_33 : decode prog_16_method_13_code 33 = .ok (.iload_n 2, 1) := by decide +kernel
theorem d_I_stringSize_34 : decode prog_16_method_13_code 34 = .ok (.imul, 1) := by decide +kernel
theorem d_I_stringSize_35 : decode prog_16_method_13_code 35 = .ok (.istore_n 2, 1) := by decide +kernel
theorem d_I_stringSize_36 : decode prog_16_method_13_code 36 = .ok (.iinc 3 1, 3) := by decide +kernel
theorem d_I_stringSize_39 : decode prog_16_method_13_code 39 = .ok (.goto (-23), 3) := by decide +kernel
theorem d_I_stringSize_42 : decode prog_16_method_13_code 42 = .ok (.bipush 10, 2) := by decide +kernel
theorem d_I_stringSize_44 : decode prog_16_method_13_code 44 = .ok (.iload_n 1, 1) := by decide +kernel
theorem d_I_stringSize_45 : decode prog_16_method_13_code 45 = .ok (.iadd, 1) := by decide +kernel
theorem d_I_stringSize_46 : decode prog_16_method_13_code 46 = .ok (.ireturn, 1) := by decide +kernel
abbrev m_I_getChars : pe_Y := (⟨"java/lang/Integer", "getChars", "(II[B)I"⟩, prog_16_method_12_code, 7, (Option.some FieldType.int), 0, 0)
theorem d_I_getChars_0 : decode prog_16_method_12_code 0 = .ok (.iload_n 1, 1) := by decide +kernel
theorem d_I_getChars_1 : decode prog_16_method_12_code 1 = .ok (.istore 5, 2) := by decide +kernel
theorem d_I_getChars_3 : decode prog_16_method_12_code 3 = .ok (.iload_n 0, 1) := by decide +kernel
theorem d_I_getChars_4 : decode prog_16_method_12_code 4 = .ok (.ifCond .ge 7, 3) := by decide +kernel
theorem d_I_getChars_7 : decode prog_16_method_12_code 7 = .ok (.iconst 1, 1) := by decide +kernel
theorem d_I_getChars_8 : decode prog_16_method_12_code 8 = .ok (.goto 4, 3) := by decide +kernel
theorem d_I_getChars_11 : decode prog_16_method_12_code 11 = .ok (.iconst 0, 1) := by decide +kernel
theorem d_I_getChars_12 : decode prog_16_method_12_code 12 = .ok (.istore 6, 2) := by decide +kernel
theorem d_I_getChars_14 : decode prog_16_method_12_code 14 = .ok (.iload 6, 2) := by decide +kernel
theorem d_I_getChars_16 : decode prog_16_method_12_code 16 = .ok (.ifCond .ne 6, 3) := by decide +kernel
theorem d_I_getChars_19 : decode prog_16_method_12_code 19 = .ok (.iload_n 0, 1) := by decide +kernel
theorem d_I_getChars_20 : decode prog_16_method_12_code 20 = .ok (.ineg, 1) := by decide +kernel
theorem d_I_getChars_21 : decode prog_16_method_12_code 21 = .ok (.istore_n 0, 1) := by decide +kernel
theorem d_I_getChars_22 : decode prog_16_method_12_code 22 = .ok (.iload_n 0, 1) := by decide +kernel
theorem d_I_getChars_23 : decode prog_16_method_12_code 23 = .ok (.bipush (-100), 2) := by decide +kernel
theorem d_I_getChars_25 : decode prog_16_method_12_code 25 = .ok (.if_icmp .gt 47, 3) := by decide +kernel
theorem d_I_getChars_28 : decode prog_16_method_12_code 28 = .ok (.iload_n 0, 1) := by decide +kernel
theorem d_I_getChars_29 : decode prog_16_method_12_code 29 = .ok (.bipush 100, 2) := by decide +kernel
theorem d_I_getChars_31 : decode prog_16_method_12_code 31 = .ok (.idiv, 1) := by decide +kernel
theorem d_I_getChars_32 : decode prog_16_method_12_code 32 = .ok (.istore_n 3, 1) := by decide +kernel
theorem d_I_getChars_33 : decode prog_16_method_12_code 33 = .ok (.iload_n 3, 1) := by decide +kernel
theorem d_I_getChars_34 : decode prog_16_method_12_code 34 = .ok (.bipush 100, 2) := by decide +kernel
theorem d_I_getChars_36 : decode prog_16_method_12_code 36 = .ok (.imul, 1) := by decide +kernel
theorem d_I_getChars_37 : decode prog_16_method_12_code 37 = .ok (.iload_n 0, 1) := by decide +kernel
theorem d_I_getChars_38 : decode prog_16_method_12_code 38 = .ok (.isub, 1) := by decide +kernel
theorem d_I_getChars_39 : decode prog_16_method_12_code 39 = .ok (.istore 4, 2) := by decide +kernel
theorem d_I_getChars_41 : decode prog_16_method_12_code 41 = .ok (.iload_n 3, 1) := by decide +kernel
theorem d_I_getChars_42 : decode prog_16_method_12_code 42 = .ok (.istore_n 0, 1) := by decide +kernel
theorem d_I_getChars_43 : decode prog_16_method_12_code 43 = .ok (.aload_n 2, 1) := by decide +kernel
theorem d_I_getChars_44 : decode prog_16_method_12_code 44 = .ok (.iinc 5 (-1), 3) := by decide +kernel
theorem d_I_getChars_47 : decode prog_16_method_12_code 47 = .ok (.iload 5, 2) := by decide +kernel
theorem d_I_getChars_49 : decode prog_16_method_12_code 49 = .ok (.getstatic 83, 3) := by decide +kernel
theorem d_I_getChars_52 : decode prog_16_method_12_code 52 = .ok (.iload 4, 2) := by decide +kernel
theorem d_I_getChars_54 : decode prog_16_method_12_code 54 = .ok (.baload, 1) := by decide +kernel
theorem d_I_getChars_55 : decode prog_16_method_12_code 55 = .ok (.bastore, 1) := by decide +kernel
theorem d_I_getChars_56 : decode prog_16_method_12_code 56 = .ok (.aload_n 2, 1) := by decide +kernel
theorem d_I_getChars_57 : decode prog_16_method_12_code 57 = .ok (.iinc 5 (-1), 3) := by decide +kernel
theorem d_I_getChars_60 : decode prog_16_method_12_code 60 = .ok (.iload 5, 2) := by decide +kernel
theorem d_I_getChars_62 : decode prog_16_method_12_code 62 = .ok (.getstatic 87, 3) := by decide +kernel
theorem d_I_getChars_65 : decode prog_16_method_12_code 65 = .ok (.iload 4, 2) := by decide +kernel
theorem d_I_getChars_67 : decode prog_16_method_12_code 67 = .ok (.baload, 1) := by decide +kernel
theorem d_I_getChars_68 : decode prog_16_method_12_code 68 = .ok (.bastore, 1) := by decide +kernel
theorem d_I_getChars_69 : decode prog_16_method_12_code 69 = .ok (.goto (-47), 3) := by decide +kernel
theorem d_I_getChars_72 : decode prog_16_method_12_code 72 = .ok (.aload_n 2, 1) := by decide +kernel
theorem d_I_getChars_73 : decode prog_16_method_12_code 73 = .ok (.iinc 5 (-1), 3) := by decide +kernel
theorem d_I_getChars_76 : decode prog_16_method_12_code 76 = .ok (.iload 5, 2) := by decide +kernel
theorem d_I_getChars_78 : decode prog_16_method_12_code 78 = .ok (.getstatic 83, 3) := by decide +kernel
theorem d_I_getChars_81 : decode prog_16_method_12_code 81 = .ok (.iload_n 0, 1) := by decide +kernel
theorem d_I_getChars_82 : decode prog_16_method_12_code 82 = .ok (.ineg, 1) := by decide +kernel
theorem d_I_getChars_83 : decode prog_16_method_12_code 83 = .ok (.baload, 1) := by decide +kernel
theorem d_I_getChars_84 : decode prog_16_method_12_code 84 = .ok (.bastore, 1) := by decide +kernel
theorem d_I_getChars_85 : decode prog_16_method_12_code 85 = .ok (.iload_n 0, 1) := by decide +kernel
theorem d_I_getChars_86 : decode prog_16_method_12_code 86 = .ok (.bipush (-9), 2) := by decide +kernel
theorem d_I_getChars_88 : decode prog_16_method_12_code 88 = .ok (.if_icmp .ge 16, 3) := by decide +kernel
theorem d_I_getChars_91 : decode prog_16_method_12_code 91 = .ok (.aload_n 2, 1) := by decide +kernel
theorem d_I_getChars_92 : decode prog_16_method_12_code 92 = .ok (.iinc 5 (-1), 3) := by decide +kernel
theorem d_I_getChars_95 : decode prog_16_method_12_code 95 = .ok (.iload 5, 2) := by decide +kernel
theorem d_I_getChars_97 : decode prog_16_method_12_code 97 = .ok (.getstatic 87, 3) := by decide +kernel
theorem d_I_getChars_100 : decode prog_16_method_12_code 100 = .ok (.iload_n 0, 1) := by decide +kernel
theorem d_I_getChars_101 : decode prog_16_method_12_code 101 = .ok (.ineg, 1) := by decide +kernel
theorem d_I_getChars_102 : decode prog_16_method_12_code 102 = .ok (.baload, 1) := by decide +kernel
theorem d_I_getChars_103 : decode prog_16_method_12_code 103 = .ok (.bastore, 1) := by decide +kernel
theorem d_I_getChars_104 : decode prog_16_method_12_code 104 = .ok (.iload 6, 2) := by decide +kernel
theorem d_I_getChars_106 : decode prog_16_method_12_code 106 = .ok (.ifCond .eq 12, 3) := by decide +kernel
theorem d_I_getChars_109 : decode prog_16_method_12_code 109 = .ok (.aload_n 2, 1) := by decide +kernel
theorem d_I_getChars_110 : decode prog_16_method_12_code 110 = .ok (.iinc 5 (-1), 3) := by decide +kernel
theorem d_I_getChars_113 : decode prog_16_method_12_code 113 = .ok (.iload 5, 2) := by decide +kernel
theorem d_I_getChars_115 : decode prog_16_method_12_code 115 = .ok (.bipush 45, 2) := by decide +kernel
theorem d_I_getChars_117 : decode prog_16_method_12_code 117 = .ok (.bastore, 1) := by decide +kernel
theorem d_I_getChars_118 : decode prog_16_method_12_code 118 = .ok (.iload 5, 2) := by decide +kernel
theorem d_I_getChars_120 : decode prog_16_method_12_code 120 = .ok (.ireturn, 1) := by decide +kernel
abbrev m_B_append2 : pe_Y := (⟨"java/lang/StringBuilder", "append", "(C)Ljava/lang/StringBuilder;"⟩, prog_19_method_14_code, 2, (Option.some (FieldType.object "java/lang/StringBuilder")), 2, 43)
theorem d_B_append2_0 : decode prog_19_method_14_code 0 = .ok (.aload_n 0, 1) := by decide +kernel
theorem d_B_append2_1 : decode prog_19_method_14_code 1 = .ok (.iload_n 1, 1) := by decide +kernel
theorem d_B_append2_2 : decode prog_19_method_14_code 2 = .ok (.invokespecial 50, 3) := by decide +kernel
theorem d_B_append2_5 : decode prog_19_method_14_code 5 = .ok (.pop, 1) := by decide +kernel
theorem d_B_append2_6 : decode prog_19_method_14_code 6 = .ok (.aload_n 0, 1) := by decide +kernel
theorem d_B_append2_7 : decode prog_19_method_14_code 7 = .ok (.areturn, 1) := by decide +kernel
abbrev m_AB_append2 : pe_Y := (⟨"java/lang/AbstractStringBuilder", "append", "(C)Ljava/lang/AbstractStringBuilder;"⟩, prog_14_method_31_code, 2, (Option.some (FieldType.object "java/lang/AbstractStringBuilder")), 1, 22)
theorem d_AB_append2_0 : decode prog_14_method_31_code 0 = .ok (.aload_n 0, 1) := by decide +kernel
theorem d_AB_append2_1 : decode prog_14_method_31_code 1 = .ok (.aload_n 0, 1) := by decide +kernel
theorem d_AB_append2_2 : decode prog_14_method_31_code 2 = .ok (.getfield 79, 3) := by decide +kernel
theorem d_AB_append2_5 : decode prog_14_method_31_code 5 = .ok (.iconst 1, 1) := by decide +kernel
theorem d_AB_append2_6 : decode prog_14_method_31_code 6 = .ok (.iadd, 1) := by decide +kernel
theorem d_AB_append2_7 : decode prog_14_method_31_code 7 = .ok (.invokevirtual 100, 3) := by decide +kernel
theorem d_AB_append2_10 : decode prog_14_method_31_code 10 = .ok (.aload_n 0, 1) := by decide +kernel
theorem d_AB_append2_11 : decode prog_14_method_31_code 11 = .ok (.invokevirtual 83, 3) := by decide +kernel
theorem d_AB_append2_14 : decode prog_14_method_31_code 14 = .ok (.ifCond .eq 31, 3) := by decide +kernel
theorem d_AB_append2_17 : decode prog_14_method_31_code 17 = .ok (.iload_n 1, 1) := by decide +kernel
theorem d_AB_append2_18 : decode prog_14_method_31_code 18 = .ok (.invokestatic 191, 3) := by decide +kernel
theorem d_AB_append2_21 : decode prog_14_method_31_code 21 = .ok (.ifCond .eq 24, 3) := by decide +kernel
theorem d_AB_append2_24 : decode prog_14_method_31_code 24 = .ok (.aload_n 0, 1) := by decide +kernel
theorem d_AB_append2_25 : decode prog_14_method_31_code 25 = .ok (.getfield 15, 3) := by decide +kernel
theorem d_AB_append2_28 : decode prog_14_method_31_code 28 = .ok (.aload_n 0, 1) := by decide +kernel
theorem d_AB_append2_29 : decode prog_14_method_31_code 29 = .ok (.dup, 1) := by decide +kernel
theorem d_AB_append2_30 : decode prog_14_method_31_code 30 = .ok (.getfield 79, 3) := by decide +kernel
theorem d_AB_append2_33 : decode prog_14_method_31_code 33 = .ok (.dup_x1, 1) := by decide +kernel
theorem d_AB_append2_34 : decode prog_14_method_31_code 34 = .ok (.iconst 1, 1) := by decide +kernel
theorem d_AB_append2_35 : decode prog_14_method_31_code 35 = .ok (.iadd, 1) := by decide +kernel
theorem d_AB_append2_36 : decode prog_14_method_31_code 36 = .ok (.putfield 79, 3) := by decide +kernel
theorem d_AB_append2_39 : decode prog_14_method_31_code 39 = .ok (.iload_n 1, 1) := by decide +kernel
theorem d_AB_append2_40 : decode prog_14_method_31_code 40 = .ok (.i2b, 1) := by decide +kernel
theorem d_AB_append2_41 : decode prog_14_method_31_code 41 = .ok (.bastore, 1) := by decide +kernel
theorem d_AB_append2_42 : decode prog_14_method_31_code 42 = .ok (.goto 33, 3) := by decide +kernel
theorem d_AB_append2_45 : decode prog_14_method_31_code 45 = .ok (.aload_n 0, 1) := by decide +kernel
theorem d_AB_append2_46 : decode prog_14_method_31_code 46 = .ok (.invokevirtual 83, 3) := by decide +kernel
theorem d_AB_append2_49 : decode prog_14_method_31_code 49 = .ok (.ifCond .eq 7, 3) := by decide +kernel
theorem d_AB_append2_52 : decode prog_14_method_31_code 52 = .ok (.aload_n 0, 1) := by decide +kernel
theorem d_AB_append2_53 : decode prog_14_method_31_code 53 = .ok (.invokevirtual 195, 3) := by decide +kernel
theorem d_AB_append2_56 : decode prog_14_method_31_code 56 = .ok (.aload_n 0, 1) := by decide +kernel
theorem d_AB_append2_57 : decode prog_14_method_31_code 57 = .ok (.getfield 15, 3) := by decide +kernel
theorem d_AB_append2_60 : decode prog_14_method_31_code 60 = .ok (.aload_n 0, 1) := by decide +kernel
theorem d_AB_append2_61 : decode prog_14_method_31_code 61 = .ok (.dup, 1) := by decide +kernel
theorem d_AB_append2_62 : decode prog_14_method_31_code 62 = .ok (.getfield 79, 3) := by decide +kernel
theorem d_AB_append2_65 : decode prog_14_method_31_code 65 = .ok (.dup_x1, 1) := by decide +kernel
theorem d_AB_append2_66 : decode prog_14_method_31_code 66 = .ok (.iconst 1, 1) := by decide +kernel
theorem d_AB_append2_67 : decode prog_14_method_31_code 67 = .ok (.iadd, 1) := by decide +kernel
theorem d_AB_append2_68 : decode prog_14_method_31_code 68 = .ok (.putfield 79, 3) := by decide +kernel
theorem d_AB_append2_71 : decode prog_14_method_31_code 71 = .ok (.iload_n 1, 1) := by decide +kernel
theorem d_AB_append2_72 : decode prog_14_method_31_code 72 = .ok (.invokestatic 197, 3) := by decide +kernel
theorem d_AB_append2_75 : decode prog_14_method_31_code 75 = .ok (.aload_n 0, 1) := by decide +kernel
theorem d_AB_append2_76 : decode prog_14_method_31_code 76 = .ok (.areturn, 1) := by decide +kernel
abbrev m_SL_canEncode : pe_Y := (⟨"java/lang/StringLatin1", "canEncode", "(C)Z"⟩, prog_20_method_3_code, 1, (Option.some FieldType.boolean), 0, 0)
theorem d_SL_canEncode_0 : decode prog_20_method_3_code 0 = .ok (.iload_n 0, 1) := by decide +kernel
theorem d_SL_canEncode_1 : decode prog_20_method_3_code 1 = .ok (.sipush 255, 3) := by decide +kernel
theorem d_SL_canEncode_4 : decode prog_20_method_3_code 4 = .ok (.if_icmp .gt 7, 3) := by decide +kernel
theorem d_SL_canEncode_7 : decode prog_20_method_3_code 7 = .ok (.iconst 1, 1) := by decide +kernel
theorem d_SL_canEncode_8 : decode prog_20_method_3_code 8 = .ok (.goto 4, 3) := by decide +kernel
theorem d_SL_canEncode_11 : decode prog_20_method_3_code 11 = .ok (.iconst 0, 1) := by decide +kernel
theorem d_SL_canEncode_12 : decode prog_20_method_3_code 12 = .ok (.ireturn, 1) := by decide +kernel
abbrev m_ST_checkIndex : pe_Y := (⟨"java/lang/String", "checkIndex", "(II)V"⟩, prog_18_method_155_code, 2, (Option.none : Option FieldType), 1, 22)
theorem d_ST_checkIndex_0 : decode prog_18_method_155_code 0 = .ok (.iload_n 0, 1) := by decide +kernel
theorem d_ST_checkIndex_1 : decode prog_18_method_155_code 1 = .ok (.iload_n 1, 1) := by decide +kernel
theorem d_ST_checkIndex_2 : decode prog_18_method_155_code 2 = .ok (.getstatic 1053, 3) := by decide +kernel
theorem d_ST_checkIndex_5 : decode prog_18_method_155_code 5 = .ok (.invokestatic 1059, 3) := by decide +kernel
theorem d_ST_checkIndex_8 : decode prog_18_method_155_code 8 = .ok (.pop, 1) := by decide +kernel
theorem d_ST_checkIndex_9 : decode prog_18_method_155_code 9 = .ok (.return_, 1) := by decide +kernel
abbrev m_PR_checkIndex : pe_Y := (⟨"jdk/internal/util/Preconditions", "checkIndex", "(IILjava/util/function/BiFunction;)I"⟩, prog_25_method_11_code, 3, (Option.some FieldType.int), 0, 0)
theorem d_PR_checkIndex_0 : decode prog_25_method_11_code 0 = .ok (.iload_n 0, 1) := by decide +kernel
theorem d_PR_checkIndex_1 : decode prog_25_method_11_code 1 = .ok (.ifCond .lt 8, 3) := by decide +kernel
theorem d_PR_checkIndex_4 : decode prog_25_method_11_code 4 = .ok (.iload_n 0, 1) := by decide +kernel
theorem d_PR_checkIndex_5 : decode prog_25_method_11_code 5 = .ok (.iload_n 1, 1) := by decide +kernel
theorem d_PR_checkIndex_6 : decode prog_25_method_11_code 6 = .ok (.if_icmp .lt 10, 3) := by decide +kernel
theorem d_PR_checkIndex_9 : decode prog_25_method_11_code 9 = .ok (.aload_n 2, 1) := by decide +kernel
theorem d_PR_checkIndex_10 : decode prog_25_method_11_code 10 = .ok (.iload_n 0, 1) := by decide +kernel
theorem d_PR_checkIndex_11 : decode prog_25_method_11_code 11 = .ok (.iload_n 1, 1) := by decide +kernel
theorem d_PR_checkIndex_12 : decode prog_25_method_11_code 12 = .ok (.invokestatic 95, 3) := by decide +kernel
theorem d_PR_checkIndex_15 : decode prog_25_method_11_code 15 = .ok (.athrow, 1) := by decide +kernel
theorem d_PR_checkIndex_16 : decode prog_25_method_11_code 16 = .ok (.iload_n 0, 1) := by decide +kernel
theorem d_PR_checkIndex_17 : decode prog_25_method_11_code 17 = .ok (.ireturn, 1) := by decide +kernel
abbrev m_B_length : pe_Y := (⟨"java/lang/StringBuilder", "length", "()I"⟩, prog_19_method_93_code, 1, (Option.some FieldType.int), 1, 20)
theorem d_B_length_0 : decode prog_19_method_93_code 0 = .ok (.aload_n 0, 1) := by decide +kernel
theorem d_B_length_1 : decode prog_19_method_93_code 1 = .ok (.invokespecial 343, 3) := by decide +kernel
theorem d_B_length_4 : decode prog_19_method_93_code 4 = .ok (.ireturn, 1) := by decide +kernel
abbrev m_AB_length : pe_Y := (⟨"java/lang/AbstractStringBuilder", "length", "()I"⟩, prog_14_method_6_code, 1, (Option.some FieldType.int), 0, 0)
theorem d_AB_length_0 : decode prog_14_method_6_code 0 = .ok (.aload_n 0, 1) := by decide +kernel
theorem d_AB_length_1 : decode prog_14_method_6_code 1 = .ok (.getfield 79, 3) := by decide +kernel
theorem d_AB_length_4 : decode prog_14_method_6_code 4 = .ok (.ireturn, 1) := by decide +kernel
abbrev m_B_charAt : pe_Y := (⟨"java/lang/StringBuilder", "charAt", "(I)C"⟩, prog_19_method_88_code, 2, (Option.some FieldType.char), 3, 67)
theorem d_B_charAt_0 : decode prog_19_method_88_code 0 = .ok (.aload_n 0, 1) := by decide +kernel
theorem d_B_charAt_1 : decode prog_19_method_88_code 1 = .ok (.iload_n 1, 1) := by decide +kernel
theorem d_B_charAt_2 : decode prog_19_method_88_code 2 = .ok (.invokespecial 329, 3) := by decide +kernel
theorem d_B_charAt_5 : decode prog_19_method_88_code 5 = .ok (.ireturn, 1) := by decide +kernel
abbrev m_AB_charAt : pe_Y := (⟨"java/lang/AbstractStringBuilder", "charAt", "(I)C"⟩, prog_14_method_14_code, 5, (Option.some FieldType.char), 2, 43)
theorem d_AB_charAt_0 : decode prog_14_method_14_code 0 = .ok (.aload_n 0, 1) := by decide +kernel
theorem d_AB_charAt_1 : decode prog_14_method_14_code 1 = .ok (.getfield 22, 3) := by decide +kernel
theorem d_AB_charAt_4 : decode prog_14_method_14_code 4 = .ok (.istore_n 2, 1) := by decide +kernel
theorem d_AB_charAt_5 : decode prog_14_method_14_code 5 = .ok (.aload_n 0, 1) := by decide +kernel
theorem d_AB_charAt_6 : decode prog_14_method_14_code 6 = .ok (.getfield 15, 3) := by decide +kernel
theorem d_AB_charAt_9 : decode prog_14_method_14_code 9 = .ok (.astore_n 3, 1) := by decide +kernel
theorem d_AB_charAt_10 : decode prog_14_method_14_code 10 = .ok (.aload_n 0, 1) := by decide +kernel
theorem d_AB_charAt_11 : decode prog_14_method_14_code 11 = .ok (.getfield 79, 3) := by decide +kernel
theorem d_AB_charAt_14 : decode prog_14_method_14_code 14 = .ok (.aload_n 3, 1) := by decide +kernel
theorem d_AB_charAt_15 : decode prog_14_method_14_code 15 = .ok (.arraylength, 1) := by decide +kernel
theorem d_AB_charAt_16 : decode prog_14_method_14_code 16 = .ok (.iload_n 2, 1) := by decide +kernel
theorem d_AB_charAt_17 : decode prog_14_method_14_code 17 = .ok (.ishr, 1) := by decide +kernel
theorem d_AB_charAt_18 : decode prog_14_method_14_code 18 = .ok (.invokestatic 138, 3) := by decide +kernel
theorem d_AB_charAt_21 : decode prog_14_method_14_code 21 = .ok (.istore 4, 2) := by decide +kernel
theorem d_AB_charAt_23 : decode prog_14_method_14_code 23 = .ok (.iload_n 1, 1) := by decide +kernel
theorem d_AB_charAt_24 : decode prog_14_method_14_code 24 = .ok (.iload 4, 2) := by decide +kernel
theorem d_AB_charAt_26 : decode prog_14_method_14_code 26 = .ok (.invokestatic 144, 3) := by decide +kernel
theorem d_AB_charAt_29 : decode prog_14_method_14_code 29 = .ok (.iload_n 2, 1) := by decide +kernel
theorem d_AB_charAt_30 : decode prog_14_method_14_code 30 = .ok (.ifCond .ne 12, 3) := by decide +kernel
theorem d_AB_charAt_33 : decode prog_14_method_14_code 33 = .ok (.aload_n 3, 1) := by decide +kernel
theorem d_AB_charAt_34 : decode prog_14_method_14_code 34 = .ok (.iload_n 1, 1) := by decide +kernel
theorem d_AB_charAt_35 : decode prog_14_method_14_code 35 = .ok (.baload, 1) := by decide +kernel
theorem d_AB_charAt_36 : decode prog_14_method_14_code 36 = .ok (.sipush 255, 3) := by decide +kernel
theorem d_AB_charAt_39 : decode prog_14_method_14_code 39 = .ok (.iand, 1) := by decide +kernel
theorem d_AB_charAt_40 : decode prog_14_method_14_code 40 = .ok (.i2c, 1) := by decide +kernel
theorem d_AB_charAt_41 : decode prog_14_method_14_code 41 = .ok (.ireturn, 1) := by decide +kernel
theorem d_AB_charAt_42 : decode prog_14_method_14_code 42 = .ok (.aload_n 3, 1) := by decide +kernel
theorem d_AB_charAt_43 : decode prog_14_method_14_code 43 = .ok (.iload_n 1, 1) := by decide +kernel
theorem d_AB_charAt_44 : decode prog_14_method_14_code 44 = .ok (.invokestatic 148, 3) := by decide +kernel
theorem d_AB_charAt_47 : decode prog_14_method_14_code 47 = .ok (.ireturn, 1) := by decide +kernel
theorem f_AB_15 : pe_FL "java/lang/AbstractStringBuilder" 15 8 0 4 := ⟨"java/lang/StringBuilder", pe_T8, pe_t8, rfl, by decide, pe_k8.1, pe_k8.2.1, pe_k8.2.2, pe_w1 (List.mem_of_getElem? (i := 216) (by decide +kernel))⟩
theorem f_AB_22 : pe_FL "java/lang/AbstractStringBuilder" 22 8 1 4 := ⟨"java/lang/StringBuilder", pe_T8, pe_t8, rfl, by decide, pe_k8.1, pe_k8.2.1, pe_k8.2.2, pe_w1 (List.mem_of_getElem? (i := 217) (by decide +kernel))⟩
theorem f_AB_73 : pe_FL "java/lang/AbstractStringBuilder" 73 8 2 4 := ⟨"java/lang/StringBuilder", pe_T8, pe_t8, rfl, by decide, pe_k8.1, pe_k8.2.1, pe_k8.2.2, pe_w1 (List.mem_of_getElem? (i := 218) (by decide +kernel))⟩
theorem f_AB_79 : pe_FL "java/lang/AbstractStringBuilder" 79 8 3 4 := ⟨"java/lang/StringBuilder", pe_T8, pe_t8, rfl, by decide, pe_k8.1, pe_k8.2.1, pe_k8.2.2, pe_w1 (List.mem_of_getElem? (i := 219) (by decide +kernel))⟩
theorem g_8_1 : pe_FP 8 1 .byte := ⟨"java/lang/StringBuilder", pe_T8, 4, rfl, rfl, by decide +kernel⟩
theorem g_8_2 : pe_FP 8 2 .boolean := ⟨"java/lang/StringBuilder", pe_T8, 4, rfl, rfl, by decide +kernel⟩
theorem g_8_3 : pe_FP 8 3 .int := ⟨"java/lang/StringBuilder", pe_T8, 4, rfl, rfl, by decide +kernel⟩
theorem w_AB_18 : Cond.fieldLink "java/lang/AbstractStringBuilder" 18 "java/lang/String" "COMPACT_STRINGS" "Z" ∈ pe_WS := pe_w1 (List.mem_of_getElem? (i := 207) (by decide +kernel))
theorem w_I_83 : Cond.fieldLink "java/lang/Integer" 83 "java/lang/Integer" "DigitOnes" "[B" ∈ pe_WS := pe_w3 (List.mem_of_getElem? (i := 227) (by decide +kernel))
theorem w_I_87 : Cond.fieldLink "java/lang/Integer" 87 "java/lang/Integer" "DigitTens" "[B" ∈ pe_WS := pe_w3 (List.mem_of_getElem? (i := 229) (by decide +kernel))
theorem w_ST_1053 : Cond.fieldLink "java/lang/String" 1053 "jdk/internal/util/Preconditions" "SIOOBE_FORMATTER" "Ljava/util/function/BiFunction;" ∈ pe_WS := pe_w4 (List.mem_of_getElem? (i := 3) (by decide +kernel))
theorem w_SU_403 : Cond.fieldLink "java/lang/StringUTF16" 403 "java/lang/Integer" "DigitOnes" "[B" ∈ pe_WS := pe_w4 (List.mem_of_getElem? (i := 11) (by decide +kernel))
theorem w_SU_407 : Cond.fieldLink "java/lang/StringUTF16" 407 "java/lang/Integer" "DigitTens" "[B" ∈ pe_WS := pe_w4 (List.mem_of_getElem? (i := 21) (by decide +kernel))
theorem k_B_setLength : Cond.code m_B_setLength.1 m_B_setLength.2.1 m_B_setLength.2.2.1 m_B_setLength.2.2.2.1 ∈ pe_WS := pe_w3 (List.mem_of_getElem? (i := 159) rfl)
theorem k_AB_setLength : Cond.code m_AB_setLength.1 m_AB_setLength.2.1 m_AB_setLength.2.2.1 m_AB_setLength.2.2.2.1 ∈ pe_WS := pe_w3 (List.mem_of_getElem? (i := 162) rfl)
theorem k_AB_ensureCapacityInternal : Cond.code m_AB_ensureCapacityInternal.1 m_AB_ensureCapacityInternal.2.1 m_AB_ensureCapacityInternal.2.2.1 m_AB_ensureCapacityInternal.2.2.2.1 ∈ pe_WS := pe_w3 (List.mem_of_getElem? (i := 166) rfl)
theorem k_AB_isLatin1 : Cond.code m_AB_isLatin1.1 m_AB_isLatin1.2.1 m_AB_isLatin1.2.2.1 m_AB_isLatin1.2.2.2.1 ∈ pe_WS := pe_w3 (List.mem_of_getElem? (i := 196) rfl)
theorem k_B_append : Cond.code m_B_append.1 m_B_append.2.1 m_B_append.2.2.1 m_B_append.2.2.2.1 ∈ pe_WS := pe_w3 (List.mem_of_getElem? (i := 217) rfl)
theorem k_AB_append : Cond.code m_AB_append.1 m_AB_append.2.1 m_AB_append.2.2.1 m_AB_append.2.2.2.1 ∈ pe_WS := pe_w3 (List.mem_of_getElem? (i := 220) rfl)
theorem k_I_stringSize : Cond.code m_I_stringSize.1 m_I_stringSize.2.1 m_I_stringSize.2.2.1 m_I_stringSize.2.2.2.1 ∈ pe_WS := pe_w3 (List.mem_of_getElem? (i := 223) rfl)
theorem k_I_getChars : Cond.code m_I_getChars.1 m_I_getChars.2.1 m_I_getChars.2.2.1 m_I_getChars.2.2.2.1 ∈ pe_WS := pe_w3 (List.mem_of_getElem? (i := 226) rfl)
theorem k_B_append2 : Cond.code m_B_append2.1 m_B_append2.2.1 m_B_append2.2.2.1 m_B_append2.2.2.2.1 ∈ pe_WS := pe_w4 (List.mem_of_getElem? (i := 25) rfl)
theorem k_AB_append2 : Cond.code m_AB_append2.1 m_AB_append2.2.1 m_AB_append2.2.2.1 m_AB_append2.2.2.2.1 ∈ pe_WS := pe_w4 (List.mem_of_getElem? (i := 28) rfl)
theorem k_SL_canEncode : Cond.code m_SL_canEncode.1 m_SL_canEncode.2.1 m_SL_canEncode.2.2.1 m_SL_canEncode.2.2.2.1 ∈ pe_WS := pe_w4 (List.mem_of_getElem? (i := 31) rfl)
theorem k_ST_checkIndex : Cond.code m_ST_checkIndex.1 m_ST_checkIndex.2.1 m_ST_checkIndex.2.2.1 m_ST_checkIndex.2.2.2.1 ∈ pe_WS := pe_w4 (List.mem_of_getElem? (i := 59) rfl)
theorem k_PR_checkIndex : Cond.code m_PR_checkIndex.1 m_PR_checkIndex.2.1 m_PR_checkIndex.2.2.1 m_PR_checkIndex.2.2.2.1 ∈ pe_WS := pe_w4 (List.mem_of_getElem? (i := 62) rfl)
theorem k_B_length : Cond.code m_B_length.1 m_B_length.2.1 m_B_length.2.2.1 m_B_length.2.2.2.1 ∈ pe_WS := pe_w4 (List.mem_of_getElem? (i := 66) rfl)
theorem k_AB_length : Cond.code m_AB_length.1 m_AB_length.2.1 m_AB_length.2.2.1 m_AB_length.2.2.2.1 ∈ pe_WS := pe_w4 (List.mem_of_getElem? (i := 69) rfl)
theorem k_B_charAt : Cond.code m_B_charAt.1 m_B_charAt.2.1 m_B_charAt.2.2.1 m_B_charAt.2.2.2.1 ∈ pe_WS := pe_w4 (List.mem_of_getElem? (i := 73) rfl)
theorem k_AB_charAt : Cond.code m_AB_charAt.1 m_AB_charAt.2.1 m_AB_charAt.2.2.1 m_AB_charAt.2.2.2.1 ∈ pe_WS := pe_w4 (List.mem_of_getElem? (i := 76) rfl)
theorem c_S_104 : pe_CL "PaintEditor$Screen" 104 m_B_setLength 1 := ⟨pe_w3 (List.mem_of_getElem? (i := 156) (by decide +kernel)), pe_w3 (List.mem_of_getElem? (i := 159) rfl), pe_w1 (List.mem_of_getElem? (i := 10) (by decide +kernel)), by decide, by decide, by decide +kernel⟩
theorem c_B_333 : ∀ w ∈ va_wsSU "java/lang/StringBuilder" 333 m_AB_setLength.1 [], w ∈ pe_WS := by
  intro w hw
  unfold va_wsSU at hw
  simp only [List.append_nil, List.mem_cons, List.not_mem_nil, or_false] at hw
  rcases hw with rfl | rfl | rfl | rfl | rfl
  · exact pe_w3 (List.mem_of_getElem? (i := 160) (by decide +kernel))
  · exact pe_w6 (List.mem_of_getElem? (i := 128) (by decide +kernel))
  · exact pe_w1 (List.mem_of_getElem? (i := 228) (by decide +kernel))
  · exact pe_w3 (List.mem_of_getElem? (i := 161) (by decide +kernel))
  · exact pe_w1 (List.mem_of_getElem? (i := 9) (by decide +kernel))
theorem c_AB_100 : ∀ w ∈ va_wsU "java/lang/AbstractStringBuilder" 100 "java/lang/StringBuilder" "java/lang/AbstractStringBuilder" m_AB_ensureCapacityInternal.1 m_AB_ensureCapacityInternal.1 [], w ∈ pe_WS := by
  intro w hw
  unfold va_wsU at hw
  simp only [List.append_nil, List.mem_cons, List.not_mem_nil, or_false] at hw
  rcases hw with rfl | rfl | rfl | rfl | rfl
  · exact pe_w3 (List.mem_of_getElem? (i := 163) (by decide +kernel))
  · exact pe_w6 (List.mem_of_getElem? (i := 129) (by decide +kernel))
  · exact pe_wx
  · exact pe_w3 (List.mem_of_getElem? (i := 165) (by decide +kernel))
  · exact pe_w1 (List.mem_of_getElem? (i := 9) (by decide +kernel))
theorem c_AB_83 : ∀ w ∈ va_wsU "java/lang/AbstractStringBuilder" 83 "java/lang/StringBuilder" "java/lang/AbstractStringBuilder" m_AB_isLatin1.1 m_AB_isLatin1.1 [], w ∈ pe_WS := by
  intro w hw
  unfold va_wsU at hw
  simp only [List.append_nil, List.mem_cons, List.not_mem_nil, or_false] at hw
  rcases hw with rfl | rfl | rfl | rfl | rfl
  · exact pe_w3 (List.mem_of_getElem? (i := 192) (by decide +kernel))
  · exact pe_w3 (List.mem_of_getElem? (i := 194) (by decide +kernel))
  · exact pe_w3 (List.mem_of_getElem? (i := 195) (by decide +kernel))
  · exact pe_w3 (List.mem_of_getElem? (i := 193) (by decide +kernel))
  · exact pe_w1 (List.mem_of_getElem? (i := 9) (by decide +kernel))
theorem c_S_110 : pe_CL "PaintEditor$Screen" 110 m_B_append 1 := ⟨pe_w3 (List.mem_of_getElem? (i := 214) (by decide +kernel)), pe_w3 (List.mem_of_getElem? (i := 217) rfl), pe_w1 (List.mem_of_getElem? (i := 10) (by decide +kernel)), by decide, by decide, by decide +kernel⟩
theorem c_B_53 : ∀ w ∈ va_wsSU "java/lang/StringBuilder" 53 m_AB_append.1 [], w ∈ pe_WS := by
  intro w hw
  unfold va_wsSU at hw
  simp only [List.append_nil, List.mem_cons, List.not_mem_nil, or_false] at hw
  rcases hw with rfl | rfl | rfl | rfl | rfl
  · exact pe_w3 (List.mem_of_getElem? (i := 218) (by decide +kernel))
  · exact pe_w6 (List.mem_of_getElem? (i := 131) (by decide +kernel))
  · exact pe_w1 (List.mem_of_getElem? (i := 228) (by decide +kernel))
  · exact pe_w3 (List.mem_of_getElem? (i := 219) (by decide +kernel))
  · exact pe_w1 (List.mem_of_getElem? (i := 9) (by decide +kernel))
theorem c_AB_245 : pe_CL "java/lang/AbstractStringBuilder" 245 m_I_stringSize 1 := ⟨pe_w3 (List.mem_of_getElem? (i := 221) (by decide +kernel)), pe_w3 (List.mem_of_getElem? (i := 223) rfl), pe_w1 (List.mem_of_getElem? (i := 22) (by decide +kernel)), by decide, by decide, by decide +kernel⟩
theorem c_AB_248 : pe_CL "java/lang/AbstractStringBuilder" 248 m_I_getChars 3 := ⟨pe_w3 (List.mem_of_getElem? (i := 224) (by decide +kernel)), pe_w3 (List.mem_of_getElem? (i := 226) rfl), pe_w1 (List.mem_of_getElem? (i := 22) (by decide +kernel)), by decide, by decide, by decide +kernel⟩
theorem c_S_114 : pe_CL "PaintEditor$Screen" 114 m_B_append2 1 := ⟨pe_w4 (List.mem_of_getElem? (i := 22) (by decide +kernel)), pe_w4 (List.mem_of_getElem? (i := 25) rfl), pe_w1 (List.mem_of_getElem? (i := 10) (by decide +kernel)), by decide, by decide, by decide +kernel⟩
theorem c_B_50 : ∀ w ∈ va_wsSU "java/lang/StringBuilder" 50 m_AB_append2.1 [], w ∈ pe_WS := by
  intro w hw
  unfold va_wsSU at hw
  simp only [List.append_nil, List.mem_cons, List.not_mem_nil, or_false] at hw
  rcases hw with rfl | rfl | rfl | rfl | rfl
  · exact pe_w4 (List.mem_of_getElem? (i := 26) (by decide +kernel))
  · exact pe_w6 (List.mem_of_getElem? (i := 132) (by decide +kernel))
  · exact pe_w1 (List.mem_of_getElem? (i := 228) (by decide +kernel))
  · exact pe_w4 (List.mem_of_getElem? (i := 27) (by decide +kernel))
  · exact pe_w1 (List.mem_of_getElem? (i := 9) (by decide +kernel))
theorem c_AB_191 : pe_CL "java/lang/AbstractStringBuilder" 191 m_SL_canEncode 1 := ⟨pe_w4 (List.mem_of_getElem? (i := 29) (by decide +kernel)), pe_w4 (List.mem_of_getElem? (i := 31) rfl), pe_w1 (List.mem_of_getElem? (i := 21) (by decide +kernel)), by decide, by decide, by decide +kernel⟩
theorem c_SU_414 : pe_CL "java/lang/StringUTF16" 414 m_ST_checkIndex 2 := ⟨pe_w4 (List.mem_of_getElem? (i := 57) (by decide +kernel)), pe_w4 (List.mem_of_getElem? (i := 59) rfl), pe_w1 (List.mem_of_getElem? (i := 11) (by decide +kernel)), by decide, by decide, by decide +kernel⟩
theorem c_ST_1059 : pe_CL "java/lang/String" 1059 m_PR_checkIndex 3 := ⟨pe_w4 (List.mem_of_getElem? (i := 60) (by decide +kernel)), pe_w4 (List.mem_of_getElem? (i := 62) rfl), pe_w1 (List.mem_of_getElem? (i := 23) (by decide +kernel)), by decide, by decide, by decide +kernel⟩
theorem c_S_126 : pe_CL "PaintEditor$Screen" 126 m_B_length 0 := ⟨pe_w4 (List.mem_of_getElem? (i := 63) (by decide +kernel)), pe_w4 (List.mem_of_getElem? (i := 66) rfl), pe_w1 (List.mem_of_getElem? (i := 10) (by decide +kernel)), by decide, by decide, by decide +kernel⟩
theorem c_B_343 : ∀ w ∈ va_wsSU "java/lang/StringBuilder" 343 m_AB_length.1 [], w ∈ pe_WS := by
  intro w hw
  unfold va_wsSU at hw
  simp only [List.append_nil, List.mem_cons, List.not_mem_nil, or_false] at hw
  rcases hw with rfl | rfl | rfl | rfl | rfl
  · exact pe_w4 (List.mem_of_getElem? (i := 67) (by decide +kernel))
  · exact pe_w6 (List.mem_of_getElem? (i := 134) (by decide +kernel))
  · exact pe_w1 (List.mem_of_getElem? (i := 228) (by decide +kernel))
  · exact pe_w4 (List.mem_of_getElem? (i := 68) (by decide +kernel))
  · exact pe_w1 (List.mem_of_getElem? (i := 9) (by decide +kernel))
theorem c_S_129 : pe_CL "PaintEditor$Screen" 129 m_B_charAt 1 := ⟨pe_w4 (List.mem_of_getElem? (i := 70) (by decide +kernel)), pe_w4 (List.mem_of_getElem? (i := 73) rfl), pe_w1 (List.mem_of_getElem? (i := 10) (by decide +kernel)), by decide, by decide, by decide +kernel⟩
theorem c_B_329 : ∀ w ∈ va_wsSU "java/lang/StringBuilder" 329 m_AB_charAt.1 [], w ∈ pe_WS := by
  intro w hw
  unfold va_wsSU at hw
  simp only [List.append_nil, List.mem_cons, List.not_mem_nil, or_false] at hw
  rcases hw with rfl | rfl | rfl | rfl | rfl
  · exact pe_w4 (List.mem_of_getElem? (i := 74) (by decide +kernel))
  · exact pe_w6 (List.mem_of_getElem? (i := 135) (by decide +kernel))
  · exact pe_w1 (List.mem_of_getElem? (i := 228) (by decide +kernel))
  · exact pe_w4 (List.mem_of_getElem? (i := 75) (by decide +kernel))
  · exact pe_w1 (List.mem_of_getElem? (i := 9) (by decide +kernel))
theorem c_AB_144 : pe_CL "java/lang/AbstractStringBuilder" 144 m_ST_checkIndex 2 := ⟨pe_w4 (List.mem_of_getElem? (i := 78) (by decide +kernel)), pe_w4 (List.mem_of_getElem? (i := 59) rfl), pe_w1 (List.mem_of_getElem? (i := 11) (by decide +kernel)), by decide, by decide, by decide +kernel⟩
theorem i_B_setLength : Cond.instanceMethod m_B_setLength.1 ∈ pe_WS := pe_w3 (List.mem_of_getElem? (i := 157) (by decide +kernel))
theorem s_B_setLength : Cond.selects "java/lang/StringBuilder" m_B_setLength.1 m_B_setLength.1 ∈ pe_WS := pe_w3 (List.mem_of_getElem? (i := 158) (by decide +kernel))
theorem i_AB_setLength : Cond.instanceMethod m_AB_setLength.1 ∈ pe_WS := pe_w3 (List.mem_of_getElem? (i := 161) (by decide +kernel))
theorem i_AB_ensureCapacityInternal : Cond.instanceMethod m_AB_ensureCapacityInternal.1 ∈ pe_WS := pe_w3 (List.mem_of_getElem? (i := 165) (by decide +kernel))
theorem i_AB_isLatin1 : Cond.instanceMethod m_AB_isLatin1.1 ∈ pe_WS := pe_w3 (List.mem_of_getElem? (i := 193) (by decide +kernel))
theorem i_B_append : Cond.instanceMethod m_B_append.1 ∈ pe_WS := pe_w3 (List.mem_of_getElem? (i := 215) (by decide +kernel))
theorem s_B_append : Cond.selects "java/lang/StringBuilder" m_B_append.1 m_B_append.1 ∈ pe_WS := pe_w3 (List.mem_of_getElem? (i := 216) (by decide +kernel))
theorem i_AB_append : Cond.instanceMethod m_AB_append.1 ∈ pe_WS := pe_w3 (List.mem_of_getElem? (i := 219) (by decide +kernel))
theorem z_I_stringSize : Cond.static m_I_stringSize.1 ∈ pe_WS := pe_w3 (List.mem_of_getElem? (i := 222) (by decide +kernel))
theorem z_I_getChars : Cond.static m_I_getChars.1 ∈ pe_WS := pe_w3 (List.mem_of_getElem? (i := 225) (by decide +kernel))
theorem i_B_append2 : Cond.instanceMethod m_B_append2.1 ∈ pe_WS := pe_w4 (List.mem_of_getElem? (i := 23) (by decide +kernel))
theorem s_B_append2 : Cond.selects "java/lang/StringBuilder" m_B_append2.1 m_B_append2.1 ∈ pe_WS := pe_w4 (List.mem_of_getElem? (i := 24) (by decide +kernel))
theorem i_AB_append2 : Cond.instanceMethod m_AB_append2.1 ∈ pe_WS := pe_w4 (List.mem_of_getElem? (i := 27) (by decide +kernel))
theorem z_SL_canEncode : Cond.static m_SL_canEncode.1 ∈ pe_WS := pe_w4 (List.mem_of_getElem? (i := 30) (by decide +kernel))
theorem z_ST_checkIndex : Cond.static m_ST_checkIndex.1 ∈ pe_WS := pe_w4 (List.mem_of_getElem? (i := 58) (by decide +kernel))
theorem z_PR_checkIndex : Cond.static m_PR_checkIndex.1 ∈ pe_WS := pe_w4 (List.mem_of_getElem? (i := 61) (by decide +kernel))
theorem i_B_length : Cond.instanceMethod m_B_length.1 ∈ pe_WS := pe_w4 (List.mem_of_getElem? (i := 64) (by decide +kernel))
theorem s_B_length : Cond.selects "java/lang/StringBuilder" m_B_length.1 m_B_length.1 ∈ pe_WS := pe_w4 (List.mem_of_getElem? (i := 65) (by decide +kernel))
theorem i_AB_length : Cond.instanceMethod m_AB_length.1 ∈ pe_WS := pe_w4 (List.mem_of_getElem? (i := 68) (by decide +kernel))
theorem i_B_charAt : Cond.instanceMethod m_B_charAt.1 ∈ pe_WS := pe_w4 (List.mem_of_getElem? (i := 71) (by decide +kernel))
theorem s_B_charAt : Cond.selects "java/lang/StringBuilder" m_B_charAt.1 m_B_charAt.1 ∈ pe_WS := pe_w4 (List.mem_of_getElem? (i := 72) (by decide +kernel))
theorem i_AB_charAt : Cond.instanceMethod m_AB_charAt.1 ∈ pe_WS := pe_w4 (List.mem_of_getElem? (i := 75) (by decide +kernel))
