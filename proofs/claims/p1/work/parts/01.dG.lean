theorem d_G_has_0 : decode prog_4_method_2_code 0 = .ok (.iload_n 1, 1) := by decide +kernel
theorem d_G_has_1 : decode prog_4_method_2_code 1 = .ok (.ifCond .lt 27, 3) := by decide +kernel
theorem d_G_has_4 : decode prog_4_method_2_code 4 = .ok (.iload_n 1, 1) := by decide +kernel
theorem d_G_has_5 : decode prog_4_method_2_code 5 = .ok (.aload_n 0, 1) := by decide +kernel
theorem d_G_has_6 : decode prog_4_method_2_code 6 = .ok (.getfield 22, 3) := by decide +kernel
theorem d_G_has_9 : decode prog_4_method_2_code 9 = .ok (.if_icmp .ge 19, 3) := by decide +kernel
theorem d_G_has_12 : decode prog_4_method_2_code 12 = .ok (.iload_n 2, 1) := by decide +kernel
theorem d_G_has_13 : decode prog_4_method_2_code 13 = .ok (.ifCond .lt 15, 3) := by decide +kernel
theorem d_G_has_16 : decode prog_4_method_2_code 16 = .ok (.iload_n 2, 1) := by decide +kernel
theorem d_G_has_17 : decode prog_4_method_2_code 17 = .ok (.aload_n 0, 1) := by decide +kernel
theorem d_G_has_18 : decode prog_4_method_2_code 18 = .ok (.getfield 18, 3) := by decide +kernel
theorem d_G_has_21 : decode prog_4_method_2_code 21 = .ok (.if_icmp .ge 7, 3) := by decide +kernel
theorem d_G_has_24 : decode prog_4_method_2_code 24 = .ok (.iconst 1, 1) := by decide +kernel
theorem d_G_has_25 : decode prog_4_method_2_code 25 = .ok (.goto 4, 3) := by decide +kernel
theorem d_G_has_28 : decode prog_4_method_2_code 28 = .ok (.iconst 0, 1) := by decide +kernel
theorem d_G_has_29 : decode prog_4_method_2_code 29 = .ok (.ireturn, 1) := by decide +kernel
theorem d_G_clusterAt_0 : decode prog_4_method_3_code 0 = .ok (.aload_n 0, 1) := by decide +kernel
theorem d_G_clusterAt_1 : decode prog_4_method_3_code 1 = .ok (.iload_n 1, 1) := by decide +kernel
theorem d_G_clusterAt_2 : decode prog_4_method_3_code 2 = .ok (.iload_n 2, 1) := by decide +kernel
theorem d_G_clusterAt_3 : decode prog_4_method_3_code 3 = .ok (.invokevirtual 31, 3) := by decide +kernel
theorem d_G_clusterAt_6 : decode prog_4_method_3_code 6 = .ok (.ifCond .eq 17, 3) := by decide +kernel
theorem d_G_clusterAt_9 : decode prog_4_method_3_code 9 = .ok (.aload_n 0, 1) := by decide +kernel
theorem d_G_clusterAt_10 : decode prog_4_method_3_code 10 = .ok (.getfield 9, 3) := by decide +kernel
theorem d_G_clusterAt_13 : decode prog_4_method_3_code 13 = .ok (.iload_n 1, 1) := by decide +kernel
theorem d_G_clusterAt_14 : decode prog_4_method_3_code 14 = .ok (.bipush 24, 2) := by decide +kernel
theorem d_G_clusterAt_16 : decode prog_4_method_3_code 16 = .ok (.imul, 1) := by decide +kernel
theorem d_G_clusterAt_17 : decode prog_4_method_3_code 17 = .ok (.iload_n 2, 1) := by decide +kernel
theorem d_G_clusterAt_18 : decode prog_4_method_3_code 18 = .ok (.iadd, 1) := by decide +kernel
theorem d_G_clusterAt_19 : decode prog_4_method_3_code 19 = .ok (.iaload, 1) := by decide +kernel
theorem d_G_clusterAt_20 : decode prog_4_method_3_code 20 = .ok (.goto 4, 3) := by decide +kernel
theorem d_G_clusterAt_23 : decode prog_4_method_3_code 23 = .ok (.iconst (-1), 1) := by decide +kernel
theorem d_G_clusterAt_24 : decode prog_4_method_3_code 24 = .ok (.ireturn, 1) := by decide +kernel
theorem d_G_lookAt_0 : decode prog_4_method_4_code 0 = .ok (.aload_n 0, 1) := by decide +kernel
theorem d_G_lookAt_1 : decode prog_4_method_4_code 1 = .ok (.iload_n 1, 1) := by decide +kernel
theorem d_G_lookAt_2 : decode prog_4_method_4_code 2 = .ok (.iload_n 2, 1) := by decide +kernel
theorem d_G_lookAt_3 : decode prog_4_method_4_code 3 = .ok (.invokevirtual 31, 3) := by decide +kernel
theorem d_G_lookAt_6 : decode prog_4_method_4_code 6 = .ok (.ifCond .eq 17, 3) := by decide +kernel
theorem d_G_lookAt_9 : decode prog_4_method_4_code 9 = .ok (.aload_n 0, 1) := by decide +kernel
theorem d_G_lookAt_10 : decode prog_4_method_4_code 10 = .ok (.getfield 15, 3) := by decide +kernel
theorem d_G_lookAt_13 : decode prog_4_method_4_code 13 = .ok (.iload_n 1, 1) := by decide +kernel
theorem d_G_lookAt_14 : decode prog_4_method_4_code 14 = .ok (.bipush 24, 2) := by decide +kernel
theorem d_G_lookAt_16 : decode prog_4_method_4_code 16 = .ok (.imul, 1) := by decide +kernel
theorem d_G_lookAt_17 : decode prog_4_method_4_code 17 = .ok (.iload_n 2, 1) := by decide +kernel
theorem d_G_lookAt_18 : decode prog_4_method_4_code 18 = .ok (.iadd, 1) := by decide +kernel
theorem d_G_lookAt_19 : decode prog_4_method_4_code 19 = .ok (.iaload, 1) := by decide +kernel
theorem d_G_lookAt_20 : decode prog_4_method_4_code 20 = .ok (.goto 4, 3) := by decide +kernel
theorem d_G_lookAt_23 : decode prog_4_method_4_code 23 = .ok (.iconst (-1), 1) := by decide +kernel
theorem d_G_lookAt_24 : decode prog_4_method_4_code 24 = .ok (.ireturn, 1) := by decide +kernel
theorem d_G_put_0 : decode prog_4_method_5_code 0 = .ok (.aload_n 0, 1) := by decide +kernel
theorem d_G_put_1 : decode prog_4_method_5_code 1 = .ok (.iload_n 1, 1) := by decide +kernel
theorem d_G_put_2 : decode prog_4_method_5_code 2 = .ok (.iload_n 2, 1) := by decide +kernel
theorem d_G_put_3 : decode prog_4_method_5_code 3 = .ok (.invokevirtual 31, 3) := by decide +kernel
theorem d_G_put_6 : decode prog_4_method_5_code 6 = .ok (.ifCond .eq 28, 3) := by decide +kernel
theorem d_G_put_9 : decode prog_4_method_5_code 9 = .ok (.aload_n 0, 1) := by decide +kernel
theorem d_G_put_10 : decode prog_4_method_5_code 10 = .ok (.getfield 9, 3) := by decide +kernel
theorem d_G_put_13 : decode prog_4_method_5_code 13 = .ok (.iload_n 1, 1) := by decide +kernel
theorem d_G_put_14 : decode prog_4_method_5_code 14 = .ok (.bipush 24, 2) := by decide +kernel
theorem d_G_put_16 : decode prog_4_method_5_code 16 = .ok (.imul, 1) := by decide +kernel
theorem d_G_put_17 : decode prog_4_method_5_code 17 = .ok (.iload_n 2, 1) := by decide +kernel
theorem d_G_put_18 : decode prog_4_method_5_code 18 = .ok (.iadd, 1) := by decide +kernel
theorem d_G_put_19 : decode prog_4_method_5_code 19 = .ok (.iload_n 3, 1) := by decide +kernel
theorem d_G_put_20 : decode prog_4_method_5_code 20 = .ok (.iastore, 1) := by decide +kernel
theorem d_G_put_21 : decode prog_4_method_5_code 21 = .ok (.aload_n 0, 1) := by decide +kernel
theorem d_G_put_22 : decode prog_4_method_5_code 22 = .ok (.getfield 15, 3) := by decide +kernel
theorem d_G_put_25 : decode prog_4_method_5_code 25 = .ok (.iload_n 1, 1) := by decide +kernel
theorem d_G_put_26 : decode prog_4_method_5_code 26 = .ok (.bipush 24, 2) := by decide +kernel
theorem d_G_put_28 : decode prog_4_method_5_code 28 = .ok (.imul, 1) := by decide +kernel
theorem d_G_put_29 : decode prog_4_method_5_code 29 = .ok (.iload_n 2, 1) := by decide +kernel
theorem d_G_put_30 : decode prog_4_method_5_code 30 = .ok (.iadd, 1) := by decide +kernel
theorem d_G_put_31 : decode prog_4_method_5_code 31 = .ok (.iload 4, 2) := by decide +kernel
theorem d_G_put_33 : decode prog_4_method_5_code 33 = .ok (.iastore, 1) := by decide +kernel
theorem d_G_put_34 : decode prog_4_method_5_code 34 = .ok (.return_, 1) := by decide +kernel
theorem d_G_isBlank_0 : decode prog_4_method_6_code 0 = .ok (.aload_n 0, 1) := by decide +kernel
theorem d_G_isBlank_1 : decode prog_4_method_6_code 1 = .ok (.iload_n 1, 1) := by decide +kernel
theorem d_G_isBlank_2 : decode prog_4_method_6_code 2 = .ok (.iload_n 2, 1) := by decide +kernel
theorem d_G_isBlank_3 : decode prog_4_method_6_code 3 = .ok (.invokevirtual 35, 3) := by decide +kernel
theorem d_G_isBlank_6 : decode prog_4_method_6_code 6 = .ok (.bipush 32, 2) := by decide +kernel
theorem d_G_isBlank_8 : decode prog_4_method_6_code 8 = .ok (.if_icmp .ne 16, 3) := by decide +kernel
theorem d_G_isBlank_11 : decode prog_4_method_6_code 11 = .ok (.aload_n 0, 1) := by decide +kernel
theorem d_G_isBlank_12 : decode prog_4_method_6_code 12 = .ok (.iload_n 1, 1) := by decide +kernel
theorem d_G_isBlank_13 : decode prog_4_method_6_code 13 = .ok (.iload_n 2, 1) := by decide +kernel
theorem d_G_isBlank_14 : decode prog_4_method_6_code 14 = .ok (.invokevirtual 39, 3) := by decide +kernel
theorem d_G_isBlank_17 : decode prog_4_method_6_code 17 = .ok (.ifCond .ne 7, 3) := by decide +kernel
theorem d_G_isBlank_20 : decode prog_4_method_6_code 20 = .ok (.iconst 1, 1) := by decide +kernel
theorem d_G_isBlank_21 : decode prog_4_method_6_code 21 = .ok (.goto 4, 3) := by decide +kernel
theorem d_G_isBlank_24 : decode prog_4_method_6_code 24 = .ok (.iconst 0, 1) := by decide +kernel
theorem d_G_isBlank_25 : decode prog_4_method_6_code 25 = .ok (.ireturn, 1) := by decide +kernel
theorem d_G_isWideAt_0 : decode prog_4_method_7_code 0 = .ok (.aload_n 0, 1) := by decide +kernel
theorem d_G_isWideAt_1 : decode prog_4_method_7_code 1 = .ok (.iload_n 1, 1) := by decide +kernel
theorem d_G_isWideAt_2 : decode prog_4_method_7_code 2 = .ok (.iload_n 2, 1) := by decide +kernel
theorem d_G_isWideAt_3 : decode prog_4_method_7_code 3 = .ok (.invokevirtual 31, 3) := by decide +kernel
theorem d_G_isWideAt_6 : decode prog_4_method_7_code 6 = .ok (.ifCond .eq 22, 3) := by decide +kernel
theorem d_G_isWideAt_9 : decode prog_4_method_7_code 9 = .ok (.aload_n 0, 1) := by decide +kernel
theorem d_G_isWideAt_10 : decode prog_4_method_7_code 10 = .ok (.iload_n 1, 1) := by decide +kernel
theorem d_G_isWideAt_11 : decode prog_4_method_7_code 11 = .ok (.iload_n 2, 1) := by decide +kernel
theorem d_G_isWideAt_12 : decode prog_4_method_7_code 12 = .ok (.invokevirtual 35, 3) := by decide +kernel
theorem d_G_isWideAt_15 : decode prog_4_method_7_code 15 = .ok (.invokestatic 42, 3) := by decide +kernel
theorem d_G_isWideAt_18 : decode prog_4_method_7_code 18 = .ok (.invokestatic 48, 3) := by decide +kernel
theorem d_G_isWideAt_21 : decode prog_4_method_7_code 21 = .ok (.ifCond .eq 7, 3) := by decide +kernel
theorem d_G_isWideAt_24 : decode prog_4_method_7_code 24 = .ok (.iconst 1, 1) := by decide +kernel
theorem d_G_isWideAt_25 : decode prog_4_method_7_code 25 = .ok (.goto 4, 3) := by decide +kernel
theorem d_G_isWideAt_28 : decode prog_4_method_7_code 28 = .ok (.iconst 0, 1) := by decide +kernel
theorem d_G_isWideAt_29 : decode prog_4_method_7_code 29 = .ok (.ireturn, 1) := by decide +kernel
theorem d_G_blankAll_0 : decode prog_4_method_8_code 0 = .ok (.aload_n 0, 1) := by decide +kernel
theorem d_G_blankAll_1 : decode prog_4_method_8_code 1 = .ok (.getfield 9, 3) := by decide +kernel
theorem d_G_blankAll_4 : decode prog_4_method_8_code 4 = .ok (.bipush 32, 2) := by decide +kernel
theorem d_G_blankAll_6 : decode prog_4_method_8_code 6 = .ok (.invokestatic 25, 3) := by decide +kernel
theorem d_G_blankAll_9 : decode prog_4_method_8_code 9 = .ok (.aload_n 0, 1) := by decide +kernel
theorem d_G_blankAll_10 : decode prog_4_method_8_code 10 = .ok (.getfield 15, 3) := by decide +kernel
theorem d_G_blankAll_13 : decode prog_4_method_8_code 13 = .ok (.iconst 0, 1) := by decide +kernel
theorem d_G_blankAll_14 : decode prog_4_method_8_code 14 = .ok (.invokestatic 25, 3) := by decide +kernel
theorem d_G_blankAll_17 : decode prog_4_method_8_code 17 = .ok (.return_, 1) := by decide +kernel
theorem d_G_blankFrom_0 : decode prog_4_method_9_code 0 = .ok (.iload_n 2, 1) := by decide +kernel
theorem d_G_blankFrom_1 : decode prog_4_method_9_code 1 = .ok (.istore_n 3, 1) := by decide +kernel
theorem d_G_blankFrom_2 : decode prog_4_method_9_code 2 = .ok (.iload_n 3, 1) := by decide +kernel
theorem d_G_blankFrom_3 : decode prog_4_method_9_code 3 = .ok (.aload_n 0, 1) := by decide +kernel
theorem d_G_blankFrom_4 : decode prog_4_method_9_code 4 = .ok (.getfield 18, 3) := by decide +kernel
theorem d_G_blankFrom_7 : decode prog_4_method_9_code 7 = .ok (.if_icmp .ge 18, 3) := by decide +kernel
theorem d_G_blankFrom_10 : decode prog_4_method_9_code 10 = .ok (.aload_n 0, 1) := by decide +kernel
theorem d_G_blankFrom_11 : decode prog_4_method_9_code 11 = .ok (.iload_n 1, 1) := by decide +kernel
theorem d_G_blankFrom_12 : decode prog_4_method_9_code 12 = .ok (.iload_n 3, 1) := by decide +kernel
theorem d_G_blankFrom_13 : decode prog_4_method_9_code 13 = .ok (.bipush 32, 2) := by decide +kernel
theorem d_G_blankFrom_15 : decode prog_4_method_9_code 15 = .ok (.iconst 0, 1) := by decide +kernel
theorem d_G_blankFrom_16 : decode prog_4_method_9_code 16 = .ok (.invokevirtual 52, 3) := by decide +kernel
theorem d_G_blankFrom_19 : decode prog_4_method_9_code 19 = .ok (.iinc 3 1, 3) := by decide +kernel
theorem d_G_blankFrom_22 : decode prog_4_method_9_code 22 = .ok (.goto (-20), 3) := by decide +kernel
theorem d_G_blankFrom_25 : decode prog_4_method_9_code 25 = .ok (.return_, 1) := by decide +kernel
theorem d_G_resize_0 : decode prog_4_method_10_code 0 = .ok (.iconst 0, 1) := by decide +kernel
theorem d_G_resize_1 : decode prog_4_method_10_code 1 = .ok (.istore_n 3, 1) := by decide +kernel
theorem d_G_resize_2 : decode prog_4_method_10_code 2 = .ok (.iload_n 3, 1) := by decide +kernel
theorem d_G_resize_3 : decode prog_4_method_10_code 3 = .ok (.aload_n 0, 1) := by decide +kernel
theorem d_G_resize_4 : decode prog_4_method_10_code 4 = .ok (.getfield 22, 3) := by decide +kernel
theorem d_G_resize_7 : decode prog_4_method_10_code 7 = .ok (.if_icmp .ge 46, 3) := by decide +kernel
theorem d_G_resize_10 : decode prog_4_method_10_code 10 = .ok (.aload_n 0, 1) := by decide +kernel
theorem d_G_resize_11 : decode prog_4_method_10_code 11 = .ok (.iload_n 3, 1) := by decide +kernel
theorem d_G_resize_12 : decode prog_4_method_10_code 12 = .ok (.iload_n 3, 1) := by decide +kernel
theorem d_G_resize_13 : decode prog_4_method_10_code 13 = .ok (.iload_n 2, 1) := by decide +kernel
theorem d_G_resize_14 : decode prog_4_method_10_code 14 = .ok (.if_icmp .ge 7, 3) := by decide +kernel
theorem d_G_resize_17 : decode prog_4_method_10_code 17 = .ok (.iload_n 1, 1) := by decide +kernel
theorem d_G_resize_18 : decode prog_4_method_10_code 18 = .ok (.goto 4, 3) := by decide +kernel
theorem d_G_resize_21 : decode prog_4_method_10_code 21 = .ok (.iconst 0, 1) := by decide +kernel
theorem d_G_resize_22 : decode prog_4_method_10_code 22 = .ok (.invokevirtual 56, 3) := by decide +kernel
theorem d_G_resize_25 : decode prog_4_method_10_code 25 = .ok (.aload_n 0, 1) := by decide +kernel
theorem d_G_resize_26 : decode prog_4_method_10_code 26 = .ok (.iload_n 3, 1) := by decide +kernel
theorem d_G_resize_27 : decode prog_4_method_10_code 27 = .ok (.iload_n 1, 1) := by decide +kernel
theorem d_G_resize_28 : decode prog_4_method_10_code 28 = .ok (.iconst 1, 1) := by decide +kernel
theorem d_G_resize_29 : decode prog_4_method_10_code 29 = .ok (.isub, 1) := by decide +kernel
theorem d_G_resize_30 : decode prog_4_method_10_code 30 = .ok (.invokevirtual 60, 3) := by decide +kernel
theorem d_G_resize_33 : decode prog_4_method_10_code 33 = .ok (.ifCond .eq 14, 3) := by decide +kernel
theorem d_G_resize_36 : decode prog_4_method_10_code 36 = .ok (.aload_n 0, 1) := by decide +kernel
theorem d_G_resize_37 : decode prog_4_method_10_code 37 = .ok (.iload_n 3, 1) := by decide +kernel
theorem d_G_resize_38 : decode prog_4_method_10_code 38 = .ok (.iload_n 1, 1) := by decide +kernel
theorem d_G_resize_39 : decode prog_4_method_10_code 39 = .ok (.iconst 1, 1) := by decide +kernel
theorem d_G_resize_40 : decode prog_4_method_10_code 40 = .ok (.isub, 1) := by decide +kernel
theorem d_G_resize_41 : decode prog_4_method_10_code 41 = .ok (.bipush 32, 2) := by decide +kernel
theorem d_G_resize_43 : decode prog_4_method_10_code 43 = .ok (.iconst 0, 1) := by decide +kernel
theorem d_G_resize_44 : decode prog_4_method_10_code 44 = .ok (.invokevirtual 52, 3) := by decide +kernel
theorem d_G_resize_47 : decode prog_4_method_10_code 47 = .ok (.iinc 3 1, 3) := by decide +kernel
theorem d_G_resize_50 : decode prog_4_method_10_code 50 = .ok (.goto (-48), 3) := by decide +kernel
theorem d_G_resize_53 : decode prog_4_method_10_code 53 = .ok (.aload_n 0, 1) := by decide +kernel
theorem d_G_resize_54 : decode prog_4_method_10_code 54 = .ok (.iload_n 1, 1) := by decide +kernel
theorem d_G_resize_55 : decode prog_4_method_10_code 55 = .ok (.putfield 18, 3) := by decide +kernel
theorem d_G_resize_58 : decode prog_4_method_10_code 58 = .ok (.aload_n 0, 1) := by decide +kernel
theorem d_G_resize_59 : decode prog_4_method_10_code 59 = .ok (.iload_n 2, 1) := by decide +kernel
theorem d_G_resize_60 : decode prog_4_method_10_code 60 = .ok (.putfield 22, 3) := by decide +kernel
theorem d_G_resize_63 : decode prog_4_method_10_code 63 = .ok (.return_, 1) := by decide +kernel
theorem d_Z_write_0 : decode prog_10_method_2_code 0 = .ok (.iload_n 1, 1) := by decide +kernel
theorem d_Z_write_1 : decode prog_10_method_2_code 1 = .ok (.invokestatic 20, 3) := by decide +kernel
theorem d_Z_write_4 : decode prog_10_method_2_code 4 = .ok (.ifCond .eq 12, 3) := by decide +kernel
theorem d_Z_write_7 : decode prog_10_method_2_code 7 = .ok (.aload_n 0, 1) := by decide +kernel
theorem d_Z_write_8 : decode prog_10_method_2_code 8 = .ok (.iload_n 1, 1) := by decide +kernel
theorem d_Z_write_9 : decode prog_10_method_2_code 9 = .ok (.invokevirtual 26, 3) := by decide +kernel
theorem d_Z_write_12 : decode prog_10_method_2_code 12 = .ok (.ifCond .eq 4, 3) := by decide +kernel
theorem d_Z_write_15 : decode prog_10_method_2_code 15 = .ok (.return_, 1) := by decide +kernel
theorem d_Z_write_16 : decode prog_10_method_2_code 16 = .ok (.aload_n 0, 1) := by decide +kernel
theorem d_Z_write_17 : decode prog_10_method_2_code 17 = .ok (.getfield 29, 3) := by decide +kernel
theorem d_Z_write_20 : decode prog_10_method_2_code 20 = .ok (.ifCond .eq 30, 3) := by decide +kernel
theorem d_Z_write_23 : decode prog_10_method_2_code 23 = .ok (.aload_n 0, 1) := by decide +kernel
theorem d_Z_write_24 : decode prog_10_method_2_code 24 = .ok (.aload_n 0, 1) := by decide +kernel
theorem d_Z_write_25 : decode prog_10_method_2_code 25 = .ok (.getfield 33, 3) := by decide +kernel
theorem d_Z_write_28 : decode prog_10_method_2_code 28 = .ok (.iconst 1, 1) := by decide +kernel
theorem d_Z_write_29 : decode prog_10_method_2_code 29 = .ok (.iadd, 1) := by decide +kernel
theorem d_Z_write_30 : decode prog_10_method_2_code 30 = .ok (.aload_n 0, 1) := by decide +kernel
theorem d_Z_write_31 : decode prog_10_method_2_code 31 = .ok (.getfield 14, 3) := by decide +kernel
theorem d_Z_write_34 : decode prog_10_method_2_code 34 = .ok (.getfield 37, 3) := by decide +kernel
theorem d_Z_write_37 : decode prog_10_method_2_code 37 = .ok (.iconst 1, 1) := by decide +kernel
theorem d_Z_write_38 : decode prog_10_method_2_code 38 = .ok (.isub, 1) := by decide +kernel
theorem d_Z_write_39 : decode prog_10_method_2_code 39 = .ok (.invokestatic 40, 3) := by decide +kernel
theorem d_Z_write_42 : decode prog_10_method_2_code 42 = .ok (.putfield 33, 3) := by decide +kernel
theorem d_Z_write_45 : decode prog_10_method_2_code 45 = .ok (.aload_n 0, 1) := by decide +kernel
theorem d_Z_write_46 : decode prog_10_method_2_code 46 = .ok (.iconst 0, 1) := by decide +kernel
theorem d_Z_write_47 : decode prog_10_method_2_code 47 = .ok (.putfield 46, 3) := by decide +kernel
theorem d_Z_write_50 : decode prog_10_method_2_code 50 = .ok (.aload_n 0, 1) := by decide +kernel
theorem d_Z_write_51 : decode prog_10_method_2_code 51 = .ok (.getfield 46, 3) := by decide +kernel
theorem d_Z_write_54 : decode prog_10_method_2_code 54 = .ok (.iload_n 1, 1) := by decide +kernel
theorem d_Z_write_55 : decode prog_10_method_2_code 55 = .ok (.invokestatic 49, 3) := by decide +kernel
theorem d_Z_write_58 : decode prog_10_method_2_code 58 = .ok (.iadd, 1) := by decide +kernel
theorem d_Z_write_59 : decode prog_10_method_2_code 59 = .ok (.aload_n 0, 1) := by decide +kernel
theorem d_Z_write_60 : decode prog_10_method_2_code 60 = .ok (.getfield 14, 3) := by decide +kernel
theorem d_Z_write_63 : decode prog_10_method_2_code 63 = .ok (.getfield 53, 3) := by decide +kernel
theorem d_Z_write_66 : decode prog_10_method_2_code 66 = .ok (.if_icmp .gt 7, 3) := by decide +kernel
theorem d_Z_write_69 : decode prog_10_method_2_code 69 = .ok (.iconst 1, 1) := by decide +kernel
theorem d_Z_write_70 : decode prog_10_method_2_code 70 = .ok (.goto 4, 3) := by decide +kernel
theorem d_Z_write_73 : decode prog_10_method_2_code 73 = .ok (.iconst 0, 1) := by decide +kernel
theorem d_Z_write_74 : decode prog_10_method_2_code 74 = .ok (.istore_n 2, 1) := by decide +kernel
theorem d_Z_write_75 : decode prog_10_method_2_code 75 = .ok (.aload_n 0, 1) := by decide +kernel
theorem d_Z_write_76 : decode prog_10_method_2_code 76 = .ok (.iload_n 2, 1) := by decide +kernel
theorem d_Z_write_77 : decode prog_10_method_2_code 77 = .ok (.ifCond .eq 7, 3) := by decide +kernel
theorem d_Z_write_80 : decode prog_10_method_2_code 80 = .ok (.iload_n 1, 1) := by decide +kernel
theorem d_Z_write_81 : decode prog_10_method_2_code 81 = .ok (.goto 5, 3) := by decide +kernel
theorem d_Z_write_84 : decode prog_10_method_2_code 84 = .ok (.bipush 32, 2) := by decide +kernel
theorem d_Z_write_86 : decode prog_10_method_2_code 86 = .ok (.invokevirtual 56, 3) := by decide +kernel
theorem d_Z_write_89 : decode prog_10_method_2_code 89 = .ok (.return_, 1) := by decide +kernel
theorem d_Z_joins_0 : decode prog_10_method_3_code 0 = .ok (.aload_n 0, 1) := by decide +kernel
theorem d_Z_joins_1 : decode prog_10_method_3_code 1 = .ok (.getfield 14, 3) := by decide +kernel
theorem d_Z_joins_4 : decode prog_10_method_3_code 4 = .ok (.aload_n 0, 1) := by decide +kernel
theorem d_Z_joins_5 : decode prog_10_method_3_code 5 = .ok (.getfield 60, 3) := by decide +kernel
theorem d_Z_joins_8 : decode prog_10_method_3_code 8 = .ok (.aload_n 0, 1) := by decide +kernel
theorem d_Z_joins_9 : decode prog_10_method_3_code 9 = .ok (.getfield 63, 3) := by decide +kernel
theorem d_Z_joins_12 : decode prog_10_method_3_code 12 = .ok (.invokevirtual 66, 3) := by decide +kernel
theorem d_Z_joins_15 : decode prog_10_method_3_code 15 = .ok (.istore_n 2, 1) := by decide +kernel
theorem d_Z_joins_16 : decode prog_10_method_3_code 16 = .ok (.aload_n 0, 1) := by decide +kernel
theorem d_Z_joins_17 : decode prog_10_method_3_code 17 = .ok (.getfield 69, 3) := by decide +kernel
theorem d_Z_joins_20 : decode prog_10_method_3_code 20 = .ok (.ifCond .eq 11, 3) := by decide +kernel
theorem d_Z_joins_23 : decode prog_10_method_3_code 23 = .ok (.iload_n 2, 1) := by decide +kernel
theorem d_Z_joins_24 : decode prog_10_method_3_code 24 = .ok (.invokestatic 72, 3) := by decide +kernel
theorem d_Z_joins_27 : decode prog_10_method_3_code 27 = .ok (.iconst (-1), 1) := by decide +kernel
theorem d_Z_joins_28 : decode prog_10_method_3_code 28 = .ok (.if_icmp .eq 5, 3) := by decide +kernel
theorem d_Z_joins_31 : decode prog_10_method_3_code 31 = .ok (.iconst 0, 1) := by decide +kernel
theorem d_Z_joins_32 : decode prog_10_method_3_code 32 = .ok (.ireturn, 1) := by decide +kernel
theorem d_Z_joins_33 : decode prog_10_method_3_code 33 = .ok (.aload_n 0, 1) := by decide +kernel
theorem d_Z_joins_34 : decode prog_10_method_3_code 34 = .ok (.getfield 14, 3) := by decide +kernel
theorem d_Z_joins_37 : decode prog_10_method_3_code 37 = .ok (.aload_n 0, 1) := by decide +kernel
theorem d_Z_joins_38 : decode prog_10_method_3_code 38 = .ok (.getfield 60, 3) := by decide +kernel
theorem d_Z_joins_41 : decode prog_10_method_3_code 41 = .ok (.aload_n 0, 1) := by decide +kernel
theorem d_Z_joins_42 : decode prog_10_method_3_code 42 = .ok (.getfield 63, 3) := by decide +kernel
theorem d_Z_joins_45 : decode prog_10_method_3_code 45 = .ok (.iload_n 2, 1) := by decide +kernel
theorem d_Z_joins_46 : decode prog_10_method_3_code 46 = .ok (.iload_n 1, 1) := by decide +kernel
theorem d_Z_joins_47 : decode prog_10_method_3_code 47 = .ok (.invokestatic 75, 3) := by decide +kernel
theorem d_Z_joins_50 : decode prog_10_method_3_code 50 = .ok (.aload_n 0, 1) := by decide +kernel
theorem d_Z_joins_51 : decode prog_10_method_3_code 51 = .ok (.getfield 14, 3) := by decide +kernel
theorem d_Z_joins_54 : decode prog_10_method_3_code 54 = .ok (.aload_n 0, 1) := by decide +kernel
theorem d_Z_joins_55 : decode prog_10_method_3_code 55 = .ok (.getfield 60, 3) := by decide +kernel
theorem d_Z_joins_58 : decode prog_10_method_3_code 58 = .ok (.aload_n 0, 1) := by decide +kernel
theorem d_Z_joins_59 : decode prog_10_method_3_code 59 = .ok (.getfield 63, 3) := by decide +kernel
theorem d_Z_joins_62 : decode prog_10_method_3_code 62 = .ok (.invokevirtual 78, 3) := by decide +kernel
theorem d_Z_joins_65 : decode prog_10_method_3_code 65 = .ok (.invokevirtual 81, 3) := by decide +kernel
theorem d_Z_joins_68 : decode prog_10_method_3_code 68 = .ok (.iconst 1, 1) := by decide +kernel
theorem d_Z_joins_69 : decode prog_10_method_3_code 69 = .ok (.ireturn, 1) := by decide +kernel
theorem d_Z_writeCells_0 : decode prog_10_method_4_code 0 = .ok (.iload_n 1, 1) := by decide +kernel
theorem d_Z_writeCells_1 : decode prog_10_method_4_code 1 = .ok (.invokestatic 49, 3) := by decide +kernel
theorem d_Z_writeCells_4 : decode prog_10_method_4_code 4 = .ok (.istore_n 2, 1) := by decide +kernel
theorem d_Z_writeCells_5 : decode prog_10_method_4_code 5 = .ok (.aload_n 0, 1) := by decide +kernel
theorem d_Z_writeCells_6 : decode prog_10_method_4_code 6 = .ok (.getfield 14, 3) := by decide +kernel
theorem d_Z_writeCells_9 : decode prog_10_method_4_code 9 = .ok (.aload_n 0, 1) := by decide +kernel
theorem d_Z_writeCells_10 : decode prog_10_method_4_code 10 = .ok (.getfield 33, 3) := by decide +kernel
theorem d_Z_writeCells_13 : decode prog_10_method_4_code 13 = .ok (.aload_n 0, 1) := by decide +kernel
theorem d_Z_writeCells_14 : decode prog_10_method_4_code 14 = .ok (.getfield 46, 3) := by decide +kernel
theorem d_Z_writeCells_17 : decode prog_10_method_4_code 17 = .ok (.invokevirtual 66, 3) := by decide +kernel
theorem d_Z_writeCells_20 : decode prog_10_method_4_code 20 = .ok (.ifCond .ne 23, 3) := by decide +kernel
theorem d_Z_writeCells_23 : decode prog_10_method_4_code 23 = .ok (.aload_n 0, 1) := by decide +kernel
theorem d_Z_writeCells_24 : decode prog_10_method_4_code 24 = .ok (.getfield 14, 3) := by decide +kernel
theorem d_Z_writeCells_27 : decode prog_10_method_4_code 27 = .ok (.aload_n 0, 1) := by decide +kernel
theorem d_Z_writeCells_28 : decode prog_10_method_4_code 28 = .ok (.getfield 33, 3) := by decide +kernel
theorem d_Z_writeCells_31 : decode prog_10_method_4_code 31 = .ok (.aload_n 0, 1) := by decide +kernel
theorem d_Z_writeCells_32 : decode prog_10_method_4_code 32 = .ok (.getfield 46, 3) := by decide +kernel
theorem d_Z_writeCells_35 : decode prog_10_method_4_code 35 = .ok (.iconst 1, 1) := by decide +kernel
theorem d_Z_writeCells_36 : decode prog_10_method_4_code 36 = .ok (.isub, 1) := by decide +kernel
theorem d_Z_writeCells_37 : decode prog_10_method_4_code 37 = .ok (.bipush 32, 2) := by decide +kernel
theorem d_Z_writeCells_39 : decode prog_10_method_4_code 39 = .ok (.iconst 0, 1) := by decide +kernel
theorem d_Z_writeCells_40 : decode prog_10_method_4_code 40 = .ok (.invokevirtual 81, 3) := by decide +kernel
theorem d_Z_writeCells_43 : decode prog_10_method_4_code 43 = .ok (.aload_n 0, 1) := by decide +kernel
theorem d_Z_writeCells_44 : decode prog_10_method_4_code 44 = .ok (.getfield 14, 3) := by decide +kernel
theorem d_Z_writeCells_47 : decode prog_10_method_4_code 47 = .ok (.aload_n 0, 1) := by decide +kernel
theorem d_Z_writeCells_48 : decode prog_10_method_4_code 48 = .ok (.getfield 33, 3) := by decide +kernel
theorem d_Z_writeCells_51 : decode prog_10_method_4_code 51 = .ok (.aload_n 0, 1) := by decide +kernel
theorem d_Z_writeCells_52 : decode prog_10_method_4_code 52 = .ok (.getfield 46, 3) := by decide +kernel
theorem d_Z_writeCells_55 : decode prog_10_method_4_code 55 = .ok (.iload_n 2, 1) := by decide +kernel
theorem d_Z_writeCells_56 : decode prog_10_method_4_code 56 = .ok (.iadd, 1) := by decide +kernel
theorem d_Z_writeCells_57 : decode prog_10_method_4_code 57 = .ok (.invokevirtual 66, 3) := by decide +kernel
theorem d_Z_writeCells_60 : decode prog_10_method_4_code 60 = .ok (.ifCond .ne 23, 3) := by decide +kernel
theorem d_Z_writeCells_63 : decode prog_10_method_4_code 63 = .ok (.aload_n 0, 1) := by decide +kernel
theorem d_Z_writeCells_64 : decode prog_10_method_4_code 64 = .ok (.getfield 14, 3) := by decide +kernel
theorem d_Z_writeCells_67 : decode prog_10_method_4_code 67 = .ok (.aload_n 0, 1) := by decide +kernel
theorem d_Z_writeCells_68 : decode prog_10_method_4_code 68 = .ok (.getfield 33, 3) := by decide +kernel
theorem d_Z_writeCells_71 : decode prog_10_method_4_code 71 = .ok (.aload_n 0, 1) := by decide +kernel
theorem d_Z_writeCells_72 : decode prog_10_method_4_code 72 = .ok (.getfield 46, 3) := by decide +kernel
theorem d_Z_writeCells_75 : decode prog_10_method_4_code 75 = .ok (.iload_n 2, 1) := by decide +kernel
theorem d_Z_writeCells_76 : decode prog_10_method_4_code 76 = .ok (.iadd, 1) := by decide +kernel
theorem d_Z_writeCells_77 : decode prog_10_method_4_code 77 = .ok (.bipush 32, 2) := by decide +kernel
theorem d_Z_writeCells_79 : decode prog_10_method_4_code 79 = .ok (.iconst 0, 1) := by decide +kernel
theorem d_Z_writeCells_80 : decode prog_10_method_4_code 80 = .ok (.invokevirtual 81, 3) := by decide +kernel
theorem d_Z_writeCells_83 : decode prog_10_method_4_code 83 = .ok (.aload_n 0, 1) := by decide +kernel
theorem d_Z_writeCells_84 : decode prog_10_method_4_code 84 = .ok (.getfield 14, 3) := by decide +kernel
theorem d_Z_writeCells_87 : decode prog_10_method_4_code 87 = .ok (.aload_n 0, 1) := by decide +kernel
theorem d_Z_writeCells_88 : decode prog_10_method_4_code 88 = .ok (.getfield 33, 3) := by decide +kernel
theorem d_Z_writeCells_91 : decode prog_10_method_4_code 91 = .ok (.aload_n 0, 1) := by decide +kernel
theorem d_Z_writeCells_92 : decode prog_10_method_4_code 92 = .ok (.getfield 46, 3) := by decide +kernel
theorem d_Z_writeCells_95 : decode prog_10_method_4_code 95 = .ok (.iload_n 1, 1) := by decide +kernel
theorem d_Z_writeCells_96 : decode prog_10_method_4_code 96 = .ok (.aload_n 0, 1) := by decide +kernel
theorem d_Z_writeCells_97 : decode prog_10_method_4_code 97 = .ok (.getfield 85, 3) := by decide +kernel
theorem d_Z_writeCells_100 : decode prog_10_method_4_code 100 = .ok (.invokevirtual 81, 3) := by decide +kernel
theorem d_Z_writeCells_103 : decode prog_10_method_4_code 103 = .ok (.iload_n 2, 1) := by decide +kernel
theorem d_Z_writeCells_104 : decode prog_10_method_4_code 104 = .ok (.iconst 2, 1) := by decide +kernel
theorem d_Z_writeCells_105 : decode prog_10_method_4_code 105 = .ok (.if_icmp .ne 25, 3) := by decide +kernel
theorem d_Z_writeCells_108 : decode prog_10_method_4_code 108 = .ok (.aload_n 0, 1) := by decide +kernel
theorem d_Z_writeCells_109 : decode prog_10_method_4_code 109 = .ok (.getfield 14, 3) := by decide +kernel
theorem d_Z_writeCells_112 : decode prog_10_method_4_code 112 = .ok (.aload_n 0, 1) := by decide +kernel
theorem d_Z_writeCells_113 : decode prog_10_method_4_code 113 = .ok (.getfield 33, 3) := by decide +kernel
theorem d_Z_writeCells_116 : decode prog_10_method_4_code 116 = .ok (.aload_n 0, 1) := by decide +kernel
theorem d_Z_writeCells_117 : decode prog_10_method_4_code 117 = .ok (.getfield 46, 3) := by decide +kernel
theorem d_Z_writeCells_120 : decode prog_10_method_4_code 120 = .ok (.iconst 1, 1) := by decide +kernel
theorem d_Z_writeCells_121 : decode prog_10_method_4_code 121 = .ok (.iadd, 1) := by decide +kernel
theorem d_Z_writeCells_122 : decode prog_10_method_4_code 122 = .ok (.iconst 0, 1) := by decide +kernel
theorem d_Z_writeCells_123 : decode prog_10_method_4_code 123 = .ok (.aload_n 0, 1) := by decide +kernel
theorem d_Z_writeCells_124 : decode prog_10_method_4_code 124 = .ok (.getfield 85, 3) := by decide +kernel
theorem d_Z_writeCells_127 : decode prog_10_method_4_code 127 = .ok (.invokevirtual 81, 3) := by decide +kernel
theorem d_Z_writeCells_130 : decode prog_10_method_4_code 130 = .ok (.aload_n 0, 1) := by decide +kernel
theorem d_Z_writeCells_131 : decode prog_10_method_4_code 131 = .ok (.aload_n 0, 1) := by decide +kernel
theorem d_Z_writeCells_132 : decode prog_10_method_4_code 132 = .ok (.getfield 33, 3) := by decide +kernel
theorem d_Z_writeCells_135 : decode prog_10_method_4_code 135 = .ok (.putfield 60, 3) := by decide +kernel
theorem d_Z_writeCells_138 : decode prog_10_method_4_code 138 = .ok (.aload_n 0, 1) := by decide +kernel
theorem d_Z_writeCells_139 : decode prog_10_method_4_code 139 = .ok (.aload_n 0, 1) := by decide +kernel
theorem d_Z_writeCells_140 : decode prog_10_method_4_code 140 = .ok (.getfield 46, 3) := by decide +kernel
theorem d_Z_writeCells_143 : decode prog_10_method_4_code 143 = .ok (.putfield 63, 3) := by decide +kernel
theorem d_Z_writeCells_146 : decode prog_10_method_4_code 146 = .ok (.aload_n 0, 1) := by decide +kernel
theorem d_Z_writeCells_147 : decode prog_10_method_4_code 147 = .ok (.iconst 1, 1) := by decide +kernel
theorem d_Z_writeCells_148 : decode prog_10_method_4_code 148 = .ok (.putfield 69, 3) := by decide +kernel
theorem d_Z_writeCells_151 : decode prog_10_method_4_code 151 = .ok (.aload_n 0, 1) := by decide +kernel
theorem d_Z_writeCells_152 : decode prog_10_method_4_code 152 = .ok (.aload_n 0, 1) := by decide +kernel
theorem d_Z_writeCells_153 : decode prog_10_method_4_code 153 = .ok (.getfield 46, 3) := by decide +kernel
theorem d_Z_writeCells_156 : decode prog_10_method_4_code 156 = .ok (.iload_n 2, 1) := by decide +kernel
theorem d_Z_writeCells_157 : decode prog_10_method_4_code 157 = .ok (.iadd, 1) := by decide +kernel
theorem d_Z_writeCells_158 : decode prog_10_method_4_code 158 = .ok (.aload_n 0, 1) := by decide +kernel
theorem d_Z_writeCells_159 : decode prog_10_method_4_code 159 = .ok (.getfield 14, 3) := by decide +kernel
theorem d_Z_writeCells_162 : decode prog_10_method_4_code 162 = .ok (.getfield 53, 3) := by decide +kernel
theorem d_Z_writeCells_165 : decode prog_10_method_4_code 165 = .ok (.if_icmp .lt 7, 3) := by decide +kernel
theorem d_Z_writeCells_168 : decode prog_10_method_4_code 168 = .ok (.iconst 1, 1) := by decide +kernel
theorem d_Z_writeCells_169 : decode prog_10_method_4_code 169 = .ok (.goto 4, 3) := by decide +kernel
theorem d_Z_writeCells_172 : decode prog_10_method_4_code 172 = .ok (.iconst 0, 1) := by decide +kernel
theorem d_Z_writeCells_173 : decode prog_10_method_4_code 173 = .ok (.putfield 29, 3) := by decide +kernel
theorem d_Z_writeCells_176 : decode prog_10_method_4_code 176 = .ok (.aload_n 0, 1) := by decide +kernel
theorem d_Z_writeCells_177 : decode prog_10_method_4_code 177 = .ok (.aload_n 0, 1) := by decide +kernel
theorem d_Z_writeCells_178 : decode prog_10_method_4_code 178 = .ok (.getfield 46, 3) := by decide +kernel
theorem d_Z_writeCells_181 : decode prog_10_method_4_code 181 = .ok (.iload_n 2, 1) := by decide +kernel
theorem d_Z_writeCells_182 : decode prog_10_method_4_code 182 = .ok (.iadd, 1) := by decide +kernel
theorem d_Z_writeCells_183 : decode prog_10_method_4_code 183 = .ok (.aload_n 0, 1) := by decide +kernel
theorem d_Z_writeCells_184 : decode prog_10_method_4_code 184 = .ok (.getfield 14, 3) := by decide +kernel
theorem d_Z_writeCells_187 : decode prog_10_method_4_code 187 = .ok (.getfield 53, 3) := by decide +kernel
theorem d_Z_writeCells_190 : decode prog_10_method_4_code 190 = .ok (.iconst 1, 1) := by decide +kernel
theorem d_Z_writeCells_191 : decode prog_10_method_4_code 191 = .ok (.isub, 1) := by decide +kernel
theorem d_Z_writeCells_192 : decode prog_10_method_4_code 192 = .ok (.invokestatic 40, 3) := by decide +kernel
theorem d_Z_writeCells_195 : decode prog_10_method_4_code 195 = .ok (.putfield 46, 3) := by decide +kernel
theorem d_Z_writeCells_198 : decode prog_10_method_4_code 198 = .ok (.return_, 1) := by decide +kernel
theorem d_Z_moveTo_0 : decode prog_10_method_5_code 0 = .ok (.aload_n 0, 1) := by decide +kernel
theorem d_Z_moveTo_1 : decode prog_10_method_5_code 1 = .ok (.iload_n 1, 1) := by decide +kernel
theorem d_Z_moveTo_2 : decode prog_10_method_5_code 2 = .ok (.putfield 33, 3) := by decide +kernel
theorem d_Z_moveTo_5 : decode prog_10_method_5_code 5 = .ok (.aload_n 0, 1) := by decide +kernel
theorem d_Z_moveTo_6 : decode prog_10_method_5_code 6 = .ok (.iload_n 2, 1) := by decide +kernel
theorem d_Z_moveTo_7 : decode prog_10_method_5_code 7 = .ok (.putfield 46, 3) := by decide +kernel
theorem d_Z_moveTo_10 : decode prog_10_method_5_code 10 = .ok (.aload_n 0, 1) := by decide +kernel
theorem d_Z_moveTo_11 : decode prog_10_method_5_code 11 = .ok (.invokevirtual 88, 3) := by decide +kernel
theorem d_Z_moveTo_14 : decode prog_10_method_5_code 14 = .ok (.return_, 1) := by decide +kernel
theorem d_Z_eraseRestOfRow_0 : decode prog_10_method_6_code 0 = .ok (.aload_n 0, 1) := by decide +kernel
theorem d_Z_eraseRestOfRow_1 : decode prog_10_method_6_code 1 = .ok (.getfield 14, 3) := by decide +kernel
theorem d_Z_eraseRestOfRow_4 : decode prog_10_method_6_code 4 = .ok (.aload_n 0, 1) := by decide +kernel
theorem d_Z_eraseRestOfRow_5 : decode prog_10_method_6_code 5 = .ok (.getfield 33, 3) := by decide +kernel
theorem d_Z_eraseRestOfRow_8 : decode prog_10_method_6_code 8 = .ok (.aload_n 0, 1) := by decide +kernel
theorem d_Z_eraseRestOfRow_9 : decode prog_10_method_6_code 9 = .ok (.getfield 46, 3) := by decide +kernel
theorem d_Z_eraseRestOfRow_12 : decode prog_10_method_6_code 12 = .ok (.invokevirtual 91, 3) := by decide +kernel
theorem d_Z_eraseRestOfRow_15 : decode prog_10_method_6_code 15 = .ok (.aload_n 0, 1) := by decide +kernel
theorem d_Z_eraseRestOfRow_16 : decode prog_10_method_6_code 16 = .ok (.invokevirtual 88, 3) := by decide +kernel
theorem d_Z_eraseRestOfRow_19 : decode prog_10_method_6_code 19 = .ok (.return_, 1) := by decide +kernel
theorem d_Z_eraseAll_0 : decode prog_10_method_7_code 0 = .ok (.aload_n 0, 1) := by decide +kernel
theorem d_Z_eraseAll_1 : decode prog_10_method_7_code 1 = .ok (.getfield 14, 3) := by decide +kernel
theorem d_Z_eraseAll_4 : decode prog_10_method_7_code 4 = .ok (.invokevirtual 94, 3) := by decide +kernel
theorem d_Z_eraseAll_7 : decode prog_10_method_7_code 7 = .ok (.aload_n 0, 1) := by decide +kernel
theorem d_Z_eraseAll_8 : decode prog_10_method_7_code 8 = .ok (.invokevirtual 88, 3) := by decide +kernel
theorem d_Z_eraseAll_11 : decode prog_10_method_7_code 11 = .ok (.return_, 1) := by decide +kernel
theorem d_Z_resize_0 : decode prog_10_method_8_code 0 = .ok (.aload_n 0, 1) := by decide +kernel
theorem d_Z_resize_1 : decode prog_10_method_8_code 1 = .ok (.getfield 14, 3) := by decide +kernel
theorem d_Z_resize_4 : decode prog_10_method_8_code 4 = .ok (.iload_n 1, 1) := by decide +kernel
theorem d_Z_resize_5 : decode prog_10_method_8_code 5 = .ok (.iload_n 2, 1) := by decide +kernel
theorem d_Z_resize_6 : decode prog_10_method_8_code 6 = .ok (.invokevirtual 97, 3) := by decide +kernel
theorem d_Z_resize_9 : decode prog_10_method_8_code 9 = .ok (.aload_n 0, 1) := by decide +kernel
theorem d_Z_resize_10 : decode prog_10_method_8_code 10 = .ok (.iconst 0, 1) := by decide +kernel
theorem d_Z_resize_11 : decode prog_10_method_8_code 11 = .ok (.iconst 0, 1) := by decide +kernel
theorem d_Z_resize_12 : decode prog_10_method_8_code 12 = .ok (.invokevirtual 100, 3) := by decide +kernel
theorem d_Z_resize_15 : decode prog_10_method_8_code 15 = .ok (.return_, 1) := by decide +kernel
theorem d_Z_endWriting_0 : decode prog_10_method_9_code 0 = .ok (.aload_n 0, 1) := by decide +kernel
theorem d_Z_endWriting_1 : decode prog_10_method_9_code 1 = .ok (.iconst 0, 1) := by decide +kernel
theorem d_Z_endWriting_2 : decode prog_10_method_9_code 2 = .ok (.putfield 29, 3) := by decide +kernel
theorem d_Z_endWriting_5 : decode prog_10_method_9_code 5 = .ok (.aload_n 0, 1) := by decide +kernel
theorem d_Z_endWriting_6 : decode prog_10_method_9_code 6 = .ok (.iconst 0, 1) := by decide +kernel
theorem d_Z_endWriting_7 : decode prog_10_method_9_code 7 = .ok (.putfield 69, 3) := by decide +kernel
theorem d_Z_endWriting_10 : decode prog_10_method_9_code 10 = .ok (.return_, 1) := by decide +kernel
theorem d_S_compose_0 : decode prog_9_method_2_code 0 = .ok (.aload_n 0, 1) := by decide +kernel
theorem d_S_compose_1 : decode prog_9_method_2_code 1 = .ok (.getfield 23, 3) := by decide +kernel
theorem d_S_compose_4 : decode prog_9_method_2_code 4 = .ok (.invokevirtual 27, 3) := by decide +kernel
theorem d_S_compose_7 : decode prog_9_method_2_code 7 = .ok (.aload_n 0, 1) := by decide +kernel
theorem d_S_compose_8 : decode prog_9_method_2_code 8 = .ok (.iconst 0, 1) := by decide +kernel
theorem d_S_compose_9 : decode prog_9_method_2_code 9 = .ok (.putfield 30, 3) := by decide +kernel
theorem d_S_compose_12 : decode prog_9_method_2_code 12 = .ok (.aload_n 0, 1) := by decide +kernel
theorem d_S_compose_13 : decode prog_9_method_2_code 13 = .ok (.iconst 0, 1) := by decide +kernel
theorem d_S_compose_14 : decode prog_9_method_2_code 14 = .ok (.putfield 34, 3) := by decide +kernel
theorem d_S_compose_17 : decode prog_9_method_2_code 17 = .ok (.aload_n 0, 1) := by decide +kernel
theorem d_S_compose_18 : decode prog_9_method_2_code 18 = .ok (.getfield 23, 3) := by decide +kernel
theorem d_S_compose_21 : decode prog_9_method_2_code 21 = .ok (.getfield 37, 3) := by decide +kernel
theorem d_S_compose_24 : decode prog_9_method_2_code 24 = .ok (.iconst 4, 1) := by decide +kernel
theorem d_S_compose_25 : decode prog_9_method_2_code 25 = .ok (.if_icmp .lt 14, 3) := by decide +kernel
theorem d_S_compose_28 : decode prog_9_method_2_code 28 = .ok (.aload_n 0, 1) := by decide +kernel
theorem d_S_compose_29 : decode prog_9_method_2_code 29 = .ok (.getfield 23, 3) := by decide +kernel
theorem d_S_compose_32 : decode prog_9_method_2_code 32 = .ok (.getfield 40, 3) := by decide +kernel
theorem d_S_compose_35 : decode prog_9_method_2_code 35 = .ok (.iconst 2, 1) := by decide +kernel
theorem d_S_compose_36 : decode prog_9_method_2_code 36 = .ok (.if_icmp .ge 4, 3) := by decide +kernel
theorem d_S_compose_39 : decode prog_9_method_2_code 39 = .ok (.return_, 1) := by decide +kernel
theorem d_S_compose_40 : decode prog_9_method_2_code 40 = .ok (.aload_n 1, 1) := by decide +kernel
theorem d_S_compose_41 : decode prog_9_method_2_code 41 = .ok (.getfield 43, 3) := by decide +kernel
theorem d_S_compose_44 : decode prog_9_method_2_code 44 = .ok (.aload_n 1, 1) := by decide +kernel
theorem d_S_compose_45 : decode prog_9_method_2_code 45 = .ok (.getfield 49, 3) := by decide +kernel
theorem d_S_compose_48 : decode prog_9_method_2_code 48 = .ok (.aload_n 0, 1) := by decide +kernel
theorem d_S_compose_49 : decode prog_9_method_2_code 49 = .ok (.getfield 23, 3) := by decide +kernel
theorem d_S_compose_52 : decode prog_9_method_2_code 52 = .ok (.getfield 37, 3) := by decide +kernel
theorem d_S_compose_55 : decode prog_9_method_2_code 55 = .ok (.invokevirtual 53, 3) := by decide +kernel
theorem d_S_compose_58 : decode prog_9_method_2_code 58 = .ok (.aload_n 0, 1) := by decide +kernel
theorem d_S_compose_59 : decode prog_9_method_2_code 59 = .ok (.aload_n 1, 1) := by decide +kernel
theorem d_S_compose_60 : decode prog_9_method_2_code 60 = .ok (.getfield 43, 3) := by decide +kernel
theorem d_S_compose_63 : decode prog_9_method_2_code 63 = .ok (.getfield 59, 3) := by decide +kernel
theorem d_S_compose_66 : decode prog_9_method_2_code 66 = .ok (.aload_n 1, 1) := by decide +kernel
theorem d_S_compose_67 : decode prog_9_method_2_code 67 = .ok (.getfield 63, 3) := by decide +kernel
theorem d_S_compose_70 : decode prog_9_method_2_code 70 = .ok (.iaload, 1) := by decide +kernel
theorem d_S_compose_71 : decode prog_9_method_2_code 71 = .ok (.invokevirtual 66, 3) := by decide +kernel
theorem d_S_compose_74 : decode prog_9_method_2_code 74 = .ok (.aload_n 0, 1) := by decide +kernel
theorem d_S_compose_75 : decode prog_9_method_2_code 75 = .ok (.aload_n 1, 1) := by decide +kernel
theorem d_S_compose_76 : decode prog_9_method_2_code 76 = .ok (.getfield 43, 3) := by decide +kernel
theorem d_S_compose_79 : decode prog_9_method_2_code 79 = .ok (.getfield 70, 3) := by decide +kernel
theorem d_S_compose_82 : decode prog_9_method_2_code 82 = .ok (.aload_n 1, 1) := by decide +kernel
theorem d_S_compose_83 : decode prog_9_method_2_code 83 = .ok (.getfield 63, 3) := by decide +kernel
theorem d_S_compose_86 : decode prog_9_method_2_code 86 = .ok (.iaload, 1) := by decide +kernel
theorem d_S_compose_87 : decode prog_9_method_2_code 87 = .ok (.putfield 34, 3) := by decide +kernel
theorem d_S_compose_90 : decode prog_9_method_2_code 90 = .ok (.iconst 0, 1) := by decide +kernel
theorem d_S_compose_91 : decode prog_9_method_2_code 91 = .ok (.istore_n 2, 1) := by decide +kernel
theorem d_S_compose_92 : decode prog_9_method_2_code 92 = .ok (.iload_n 2, 1) := by decide +kernel
theorem d_S_compose_93 : decode prog_9_method_2_code 93 = .ok (.aload_n 1, 1) := by decide +kernel
theorem d_S_compose_94 : decode prog_9_method_2_code 94 = .ok (.getfield 49, 3) := by decide +kernel
theorem d_S_compose_97 : decode prog_9_method_2_code 97 = .ok (.getfield 73, 3) := by decide +kernel
theorem d_S_compose_100 : decode prog_9_method_2_code 100 = .ok (.if_icmp .gt 15, 3) := by decide +kernel
theorem d_S_compose_103 : decode prog_9_method_2_code 103 = .ok (.aload_n 0, 1) := by decide +kernel
theorem d_S_compose_104 : decode prog_9_method_2_code 104 = .ok (.aload_n 1, 1) := by decide +kernel
theorem d_S_compose_105 : decode prog_9_method_2_code 105 = .ok (.iload_n 2, 1) := by decide +kernel
theorem d_S_compose_106 : decode prog_9_method_2_code 106 = .ok (.invokevirtual 78, 3) := by decide +kernel
theorem d_S_compose_109 : decode prog_9_method_2_code 109 = .ok (.iinc 2 1, 3) := by decide +kernel
theorem d_S_compose_112 : decode prog_9_method_2_code 112 = .ok (.goto (-20), 3) := by decide +kernel
theorem d_S_compose_115 : decode prog_9_method_2_code 115 = .ok (.aload_n 0, 1) := by decide +kernel
theorem d_S_compose_116 : decode prog_9_method_2_code 116 = .ok (.aload_n 1, 1) := by decide +kernel
theorem d_S_compose_117 : decode prog_9_method_2_code 117 = .ok (.invokevirtual 82, 3) := by decide +kernel
theorem d_S_compose_120 : decode prog_9_method_2_code 120 = .ok (.return_, 1) := by decide +kernel
theorem d_S_follow_0 : decode prog_9_method_3_code 0 = .ok (.iload_n 1, 1) := by decide +kernel
theorem d_S_follow_1 : decode prog_9_method_3_code 1 = .ok (.aload_n 0, 1) := by decide +kernel
theorem d_S_follow_2 : decode prog_9_method_3_code 2 = .ok (.getfield 86, 3) := by decide +kernel
theorem d_S_follow_5 : decode prog_9_method_3_code 5 = .ok (.if_icmp .ge 11, 3) := by decide +kernel
theorem d_S_follow_8 : decode prog_9_method_3_code 8 = .ok (.aload_n 0, 1) := by decide +kernel
theorem d_S_follow_9 : decode prog_9_method_3_code 9 = .ok (.iload_n 1, 1) := by decide +kernel
theorem d_S_follow_10 : decode prog_9_method_3_code 10 = .ok (.putfield 86, 3) := by decide +kernel
theorem d_S_follow_13 : decode prog_9_method_3_code 13 = .ok (.goto 36, 3) := by decide +kernel
theorem d_S_follow_16 : decode prog_9_method_3_code 16 = .ok (.iload_n 1, 1) := by decide +kernel
theorem d_S_follow_17 : decode prog_9_method_3_code 17 = .ok (.aload_n 0, 1) := by decide +kernel
theorem d_S_follow_18 : decode prog_9_method_3_code 18 = .ok (.getfield 86, 3) := by decide +kernel
theorem d_S_follow_21 : decode prog_9_method_3_code 21 = .ok (.aload_n 0, 1) := by decide +kernel
theorem d_S_follow_22 : decode prog_9_method_3_code 22 = .ok (.getfield 23, 3) := by decide +kernel
theorem d_S_follow_25 : decode prog_9_method_3_code 25 = .ok (.getfield 40, 3) := by decide +kernel
theorem d_S_follow_28 : decode prog_9_method_3_code 28 = .ok (.iadd, 1) := by decide +kernel
theorem d_S_follow_29 : decode prog_9_method_3_code 29 = .ok (.iconst 1, 1) := by decide +kernel
theorem d_S_follow_30 : decode prog_9_method_3_code 30 = .ok (.isub, 1) := by decide +kernel
theorem d_S_follow_31 : decode prog_9_method_3_code 31 = .ok (.if_icmp .lt 18, 3) := by decide +kernel
theorem d_S_follow_34 : decode prog_9_method_3_code 34 = .ok (.aload_n 0, 1) := by decide +kernel
theorem d_S_follow_35 : decode prog_9_method_3_code 35 = .ok (.iload_n 1, 1) := by decide +kernel
theorem d_S_follow_36 : decode prog_9_method_3_code 36 = .ok (.aload_n 0, 1) := by decide +kernel
theorem d_S_follow_37 : decode prog_9_method_3_code 37 = .ok (.getfield 23, 3) := by decide +kernel
theorem d_S_follow_40 : decode prog_9_method_3_code 40 = .ok (.getfield 40, 3) := by decide +kernel
theorem d_S_follow_43 : decode prog_9_method_3_code 43 = .ok (.iconst 2, 1) := by decide +kernel
theorem d_S_follow_44 : decode prog_9_method_3_code 44 = .ok (.isub, 1) := by decide +kernel
theorem d_S_follow_45 : decode prog_9_method_3_code 45 = .ok (.isub, 1) := by decide +kernel
theorem d_S_follow_46 : decode prog_9_method_3_code 46 = .ok (.putfield 86, 3) := by decide +kernel
theorem d_S_follow_49 : decode prog_9_method_3_code 49 = .ok (.aload_n 0, 1) := by decide +kernel
theorem d_S_follow_50 : decode prog_9_method_3_code 50 = .ok (.iload_n 1, 1) := by decide +kernel
theorem d_S_follow_51 : decode prog_9_method_3_code 51 = .ok (.aload_n 0, 1) := by decide +kernel
theorem d_S_follow_52 : decode prog_9_method_3_code 52 = .ok (.getfield 86, 3) := by decide +kernel
theorem d_S_follow_55 : decode prog_9_method_3_code 55 = .ok (.isub, 1) := by decide +kernel
theorem d_S_follow_56 : decode prog_9_method_3_code 56 = .ok (.putfield 30, 3) := by decide +kernel
theorem d_S_follow_59 : decode prog_9_method_3_code 59 = .ok (.return_, 1) := by decide +kernel
theorem d_S_showCluster_0 : decode prog_9_method_4_code 0 = .ok (.aload_n 1, 1) := by decide +kernel
theorem d_S_showCluster_1 : decode prog_9_method_4_code 1 = .ok (.getfield 43, 3) := by decide +kernel
theorem d_S_showCluster_4 : decode prog_9_method_4_code 4 = .ok (.astore_n 3, 1) := by decide +kernel
theorem d_S_showCluster_5 : decode prog_9_method_4_code 5 = .ok (.aload_n 3, 1) := by decide +kernel
theorem d_S_showCluster_6 : decode prog_9_method_4_code 6 = .ok (.getfield 59, 3) := by decide +kernel
theorem d_S_showCluster_9 : decode prog_9_method_4_code 9 = .ok (.iload_n 2, 1) := by decide +kernel
theorem d_S_showCluster_10 : decode prog_9_method_4_code 10 = .ok (.iaload, 1) := by decide +kernel
theorem d_S_showCluster_11 : decode prog_9_method_4_code 11 = .ok (.aload_n 0, 1) := by decide +kernel
theorem d_S_showCluster_12 : decode prog_9_method_4_code 12 = .ok (.getfield 86, 3) := by decide +kernel
theorem d_S_showCluster_15 : decode prog_9_method_4_code 15 = .ok (.isub, 1) := by decide +kernel
theorem d_S_showCluster_16 : decode prog_9_method_4_code 16 = .ok (.istore 4, 2) := by decide +kernel
theorem d_S_showCluster_18 : decode prog_9_method_4_code 18 = .ok (.aload_n 3, 1) := by decide +kernel
theorem d_S_showCluster_19 : decode prog_9_method_4_code 19 = .ok (.getfield 59, 3) := by decide +kernel
theorem d_S_showCluster_22 : decode prog_9_method_4_code 22 = .ok (.iload_n 2, 1) := by decide +kernel
theorem d_S_showCluster_23 : decode prog_9_method_4_code 23 = .ok (.iaload, 1) := by decide +kernel
theorem d_S_showCluster_24 : decode prog_9_method_4_code 24 = .ok (.iconst (-1), 1) := by decide +kernel
theorem d_S_showCluster_25 : decode prog_9_method_4_code 25 = .ok (.if_icmp .eq 22, 3) := by decide +kernel
theorem d_S_showCluster_28 : decode prog_9_method_4_code 28 = .ok (.iload 4, 2) := by decide +kernel
theorem d_S_showCluster_30 : decode prog_9_method_4_code 30 = .ok (.ifCond .lt 17, 3) := by decide +kernel
theorem d_S_showCluster_33 : decode prog_9_method_4_code 33 = .ok (.iload 4, 2) := by decide +kernel
theorem d_S_showCluster_35 : decode prog_9_method_4_code 35 = .ok (.aload_n 0, 1) := by decide +kernel
theorem d_S_showCluster_36 : decode prog_9_method_4_code 36 = .ok (.getfield 23, 3) := by decide +kernel
theorem d_S_showCluster_39 : decode prog_9_method_4_code 39 = .ok (.getfield 40, 3) := by decide +kernel
theorem d_S_showCluster_42 : decode prog_9_method_4_code 42 = .ok (.iconst 2, 1) := by decide +kernel
theorem d_S_showCluster_43 : decode prog_9_method_4_code 43 = .ok (.isub, 1) := by decide +kernel
theorem d_S_showCluster_44 : decode prog_9_method_4_code 44 = .ok (.if_icmp .le 4, 3) := by decide +kernel
theorem d_S_showCluster_47 : decode prog_9_method_4_code 47 = .ok (.return_, 1) := by decide +kernel
theorem d_S_showCluster_48 : decode prog_9_method_4_code 48 = .ok (.aload_n 3, 1) := by decide +kernel
theorem d_S_showCluster_49 : decode prog_9_method_4_code 49 = .ok (.getfield 70, 3) := by decide +kernel
theorem d_S_showCluster_52 : decode prog_9_method_4_code 52 = .ok (.iload_n 2, 1) := by decide +kernel
theorem d_S_showCluster_53 : decode prog_9_method_4_code 53 = .ok (.iaload, 1) := by decide +kernel
theorem d_S_showCluster_54 : decode prog_9_method_4_code 54 = .ok (.istore 5, 2) := by decide +kernel
theorem d_S_showCluster_56 : decode prog_9_method_4_code 56 = .ok (.aload_n 1, 1) := by decide +kernel
theorem d_S_showCluster_57 : decode prog_9_method_4_code 57 = .ok (.iload_n 2, 1) := by decide +kernel
theorem d_S_showCluster_58 : decode prog_9_method_4_code 58 = .ok (.invokevirtual 89, 3) := by decide +kernel
theorem d_S_showCluster_61 : decode prog_9_method_4_code 61 = .ok (.ifCond .eq 7, 3) := by decide +kernel
theorem d_S_showCluster_64 : decode prog_9_method_4_code 64 = .ok (.iconst 2, 1) := by decide +kernel
theorem d_S_showCluster_65 : decode prog_9_method_4_code 65 = .ok (.goto 4, 3) := by decide +kernel
theorem d_S_showCluster_68 : decode prog_9_method_4_code 68 = .ok (.iconst 0, 1) := by decide +kernel
theorem d_S_showCluster_69 : decode prog_9_method_4_code 69 = .ok (.istore 6, 2) := by decide +kernel
theorem d_S_showCluster_71 : decode prog_9_method_4_code 71 = .ok (.aload_n 1, 1) := by decide +kernel
theorem d_S_showCluster_72 : decode prog_9_method_4_code 72 = .ok (.getfield 49, 3) := by decide +kernel
theorem d_S_showCluster_75 : decode prog_9_method_4_code 75 = .ok (.iload_n 2, 1) := by decide +kernel
theorem d_S_showCluster_76 : decode prog_9_method_4_code 76 = .ok (.invokevirtual 93, 3) := by decide +kernel
theorem d_S_showCluster_79 : decode prog_9_method_4_code 79 = .ok (.istore 7, 2) := by decide +kernel
theorem d_S_showCluster_81 : decode prog_9_method_4_code 81 = .ok (.aload_n 0, 1) := by decide +kernel
theorem d_S_showCluster_82 : decode prog_9_method_4_code 82 = .ok (.getfield 23, 3) := by decide +kernel
theorem d_S_showCluster_85 : decode prog_9_method_4_code 85 = .ok (.iload 4, 2) := by decide +kernel
theorem d_S_showCluster_87 : decode prog_9_method_4_code 87 = .ok (.iload 5, 2) := by decide +kernel
theorem d_S_showCluster_89 : decode prog_9_method_4_code 89 = .ok (.iload 7, 2) := by decide +kernel
theorem d_S_showCluster_91 : decode prog_9_method_4_code 91 = .ok (.iload 6, 2) := by decide +kernel
theorem d_S_showCluster_93 : decode prog_9_method_4_code 93 = .ok (.invokevirtual 97, 3) := by decide +kernel
theorem d_S_showCluster_96 : decode prog_9_method_4_code 96 = .ok (.iload 7, 2) := by decide +kernel
theorem d_S_showCluster_98 : decode prog_9_method_4_code 98 = .ok (.bipush 32, 2) := by decide +kernel
theorem d_S_showCluster_100 : decode prog_9_method_4_code 100 = .ok (.if_icmp .ne 8, 3) := by decide +kernel
theorem d_S_showCluster_103 : decode prog_9_method_4_code 103 = .ok (.bipush 32, 2) := by decide +kernel
theorem d_S_showCluster_105 : decode prog_9_method_4_code 105 = .ok (.goto 4, 3) := by decide +kernel
theorem d_S_showCluster_108 : decode prog_9_method_4_code 108 = .ok (.iconst 0, 1) := by decide +kernel
theorem d_S_showCluster_109 : decode prog_9_method_4_code 109 = .ok (.istore 8, 2) := by decide +kernel
theorem d_S_showCluster_111 : decode prog_9_method_4_code 111 = .ok (.iconst 1, 1) := by decide +kernel
theorem d_S_showCluster_112 : decode prog_9_method_4_code 112 = .ok (.istore 9, 2) := by decide +kernel
theorem d_S_showCluster_114 : decode prog_9_method_4_code 114 = .ok (.iload 9, 2) := by decide +kernel
theorem d_S_showCluster_116 : decode prog_9_method_4_code 116 = .ok (.aload_n 3, 1) := by decide +kernel
theorem d_S_showCluster_117 : decode prog_9_method_4_code 117 = .ok (.getfield 101, 3) := by decide +kernel
theorem d_S_showCluster_120 : decode prog_9_method_4_code 120 = .ok (.iload_n 2, 1) := by decide +kernel
theorem d_S_showCluster_121 : decode prog_9_method_4_code 121 = .ok (.iaload, 1) := by decide +kernel
theorem d_S_showCluster_122 : decode prog_9_method_4_code 122 = .ok (.if_icmp .ge 27, 3) := by decide +kernel
theorem d_S_showCluster_125 : decode prog_9_method_4_code 125 = .ok (.aload_n 0, 1) := by decide +kernel
theorem d_S_showCluster_126 : decode prog_9_method_4_code 126 = .ok (.getfield 23, 3) := by decide +kernel
theorem d_S_showCluster_129 : decode prog_9_method_4_code 129 = .ok (.iload 4, 2) := by decide +kernel
theorem d_S_showCluster_131 : decode prog_9_method_4_code 131 = .ok (.iload 5, 2) := by decide +kernel
theorem d_S_showCluster_133 : decode prog_9_method_4_code 133 = .ok (.iload 9, 2) := by decide +kernel
theorem d_S_showCluster_135 : decode prog_9_method_4_code 135 = .ok (.iadd, 1) := by decide +kernel
theorem d_S_showCluster_136 : decode prog_9_method_4_code 136 = .ok (.iload 8, 2) := by decide +kernel
theorem d_S_showCluster_138 : decode prog_9_method_4_code 138 = .ok (.iload 6, 2) := by decide +kernel
theorem d_S_showCluster_140 : decode prog_9_method_4_code 140 = .ok (.invokevirtual 97, 3) := by decide +kernel
theorem d_S_showCluster_143 : decode prog_9_method_4_code 143 = .ok (.iinc 9 1, 3) := by decide +kernel
theorem d_S_showCluster_146 : decode prog_9_method_4_code 146 = .ok (.goto (-32), 3) := by decide +kernel
theorem d_S_showCluster_149 : decode prog_9_method_4_code 149 = .ok (.return_, 1) := by decide +kernel
theorem d_S_showStatus_0 : decode prog_9_method_5_code 0 = .ok (.aload_n 0, 1) := by decide +kernel
theorem d_S_showStatus_1 : decode prog_9_method_5_code 1 = .ok (.getfield 12, 3) := by decide +kernel
theorem d_S_showStatus_4 : decode prog_9_method_5_code 4 = .ok (.iconst 0, 1) := by decide +kernel
theorem d_S_showStatus_5 : decode prog_9_method_5_code 5 = .ok (.invokevirtual 104, 3) := by decide +kernel
theorem d_S_showStatus_8 : decode prog_9_method_5_code 8 = .ok (.aload_n 0, 1) := by decide +kernel
theorem d_S_showStatus_9 : decode prog_9_method_5_code 9 = .ok (.getfield 12, 3) := by decide +kernel
theorem d_S_showStatus_12 : decode prog_9_method_5_code 12 = .ok (.aload_n 1, 1) := by decide +kernel
theorem d_S_showStatus_13 : decode prog_9_method_5_code 13 = .ok (.getfield 49, 3) := by decide +kernel
theorem d_S_showStatus_16 : decode prog_9_method_5_code 16 = .ok (.aload_n 1, 1) := by decide +kernel
theorem d_S_showStatus_17 : decode prog_9_method_5_code 17 = .ok (.getfield 63, 3) := by decide +kernel
theorem d_S_showStatus_20 : decode prog_9_method_5_code 20 = .ok (.invokevirtual 107, 3) := by decide +kernel
theorem d_S_showStatus_23 : decode prog_9_method_5_code 23 = .ok (.invokevirtual 110, 3) := by decide +kernel
theorem d_S_showStatus_26 : decode prog_9_method_5_code 26 = .ok (.pop, 1) := by decide +kernel
theorem d_S_showStatus_27 : decode prog_9_method_5_code 27 = .ok (.aload_n 0, 1) := by decide +kernel
theorem d_S_showStatus_28 : decode prog_9_method_5_code 28 = .ok (.getfield 12, 3) := by decide +kernel
theorem d_S_showStatus_31 : decode prog_9_method_5_code 31 = .ok (.bipush 58, 2) := by decide +kernel
theorem d_S_showStatus_33 : decode prog_9_method_5_code 33 = .ok (.invokevirtual 114, 3) := by decide +kernel
theorem d_S_showStatus_36 : decode prog_9_method_5_code 36 = .ok (.pop, 1) := by decide +kernel
theorem d_S_showStatus_37 : decode prog_9_method_5_code 37 = .ok (.aload_n 0, 1) := by decide +kernel
theorem d_S_showStatus_38 : decode prog_9_method_5_code 38 = .ok (.getfield 12, 3) := by decide +kernel
theorem d_S_showStatus_41 : decode prog_9_method_5_code 41 = .ok (.aload_n 0, 1) := by decide +kernel
theorem d_S_showStatus_42 : decode prog_9_method_5_code 42 = .ok (.getfield 34, 3) := by decide +kernel
theorem d_S_showStatus_45 : decode prog_9_method_5_code 45 = .ok (.iconst 1, 1) := by decide +kernel
theorem d_S_showStatus_46 : decode prog_9_method_5_code 46 = .ok (.iadd, 1) := by decide +kernel
theorem d_S_showStatus_47 : decode prog_9_method_5_code 47 = .ok (.invokevirtual 110, 3) := by decide +kernel
theorem d_S_showStatus_50 : decode prog_9_method_5_code 50 = .ok (.pop, 1) := by decide +kernel
theorem d_S_showStatus_51 : decode prog_9_method_5_code 51 = .ok (.aload_n 1, 1) := by decide +kernel
theorem d_S_showStatus_52 : decode prog_9_method_5_code 52 = .ok (.getfield 117, 3) := by decide +kernel
theorem d_S_showStatus_55 : decode prog_9_method_5_code 55 = .ok (.getfield 121, 3) := by decide +kernel
theorem d_S_showStatus_58 : decode prog_9_method_5_code 58 = .ok (.ifCond .le 13, 3) := by decide +kernel
theorem d_S_showStatus_61 : decode prog_9_method_5_code 61 = .ok (.aload_n 0, 1) := by decide +kernel
theorem d_S_showStatus_62 : decode prog_9_method_5_code 62 = .ok (.getfield 12, 3) := by decide +kernel
theorem d_S_showStatus_65 : decode prog_9_method_5_code 65 = .ok (.bipush 42, 2) := by decide +kernel
theorem d_S_showStatus_67 : decode prog_9_method_5_code 67 = .ok (.invokevirtual 114, 3) := by decide +kernel
theorem d_S_showStatus_70 : decode prog_9_method_5_code 70 = .ok (.pop, 1) := by decide +kernel
theorem d_S_showStatus_71 : decode prog_9_method_5_code 71 = .ok (.iconst 0, 1) := by decide +kernel
theorem d_S_showStatus_72 : decode prog_9_method_5_code 72 = .ok (.istore_n 2, 1) := by decide +kernel
theorem d_S_showStatus_73 : decode prog_9_method_5_code 73 = .ok (.iload_n 2, 1) := by decide +kernel
theorem d_S_showStatus_74 : decode prog_9_method_5_code 74 = .ok (.aload_n 0, 1) := by decide +kernel
theorem d_S_showStatus_75 : decode prog_9_method_5_code 75 = .ok (.getfield 23, 3) := by decide +kernel
theorem d_S_showStatus_78 : decode prog_9_method_5_code 78 = .ok (.getfield 37, 3) := by decide +kernel
theorem d_S_showStatus_81 : decode prog_9_method_5_code 81 = .ok (.if_icmp .ge 53, 3) := by decide +kernel
theorem d_S_showStatus_84 : decode prog_9_method_5_code 84 = .ok (.iload_n 2, 1) := by decide +kernel
theorem d_S_showStatus_85 : decode prog_9_method_5_code 85 = .ok (.aload_n 0, 1) := by decide +kernel
theorem d_S_showStatus_86 : decode prog_9_method_5_code 86 = .ok (.getfield 12, 3) := by decide +kernel
theorem d_S_showStatus_89 : decode prog_9_method_5_code 89 = .ok (.invokevirtual 126, 3) := by decide +kernel
theorem d_S_showStatus_92 : decode prog_9_method_5_code 92 = .ok (.if_icmp .ge 14, 3) := by decide +kernel
theorem d_S_showStatus_95 : decode prog_9_method_5_code 95 = .ok (.aload_n 0, 1) := by decide +kernel
theorem d_S_showStatus_96 : decode prog_9_method_5_code 96 = .ok (.getfield 12, 3) := by decide +kernel
theorem d_S_showStatus_99 : decode prog_9_method_5_code 99 = .ok (.iload_n 2, 1) := by decide +kernel
theorem d_S_showStatus_100 : decode prog_9_method_5_code 100 = .ok (.invokevirtual 129, 3) := by decide +kernel
theorem d_S_showStatus_103 : decode prog_9_method_5_code 103 = .ok (.goto 5, 3) := by decide +kernel
theorem d_S_showStatus_106 : decode prog_9_method_5_code 106 = .ok (.bipush 32, 2) := by decide +kernel
theorem d_S_showStatus_108 : decode prog_9_method_5_code 108 = .ok (.istore_n 3, 1) := by decide +kernel
theorem d_S_showStatus_109 : decode prog_9_method_5_code 109 = .ok (.aload_n 0, 1) := by decide +kernel
theorem d_S_showStatus_110 : decode prog_9_method_5_code 110 = .ok (.getfield 23, 3) := by decide +kernel
theorem d_S_showStatus_113 : decode prog_9_method_5_code 113 = .ok (.aload_n 0, 1) := by decide +kernel
theorem d_S_showStatus_114 : decode prog_9_method_5_code 114 = .ok (.getfield 23, 3) := by decide +kernel
theorem d_S_showStatus_117 : decode prog_9_method_5_code 117 = .ok (.getfield 40, 3) := by decide +kernel
theorem d_S_showStatus_120 : decode prog_9_method_5_code 120 = .ok (.iconst 1, 1) := by decide +kernel
theorem d_S_showStatus_121 : decode prog_9_method_5_code 121 = .ok (.isub, 1) := by decide +kernel
theorem d_S_showStatus_122 : decode prog_9_method_5_code 122 = .ok (.iload_n 2, 1) := by decide +kernel
theorem d_S_showStatus_123 : decode prog_9_method_5_code 123 = .ok (.iload_n 3, 1) := by decide +kernel
theorem d_S_showStatus_124 : decode prog_9_method_5_code 124 = .ok (.iconst 1, 1) := by decide +kernel
theorem d_S_showStatus_125 : decode prog_9_method_5_code 125 = .ok (.invokevirtual 97, 3) := by decide +kernel
theorem d_S_showStatus_128 : decode prog_9_method_5_code 128 = .ok (.iinc 2 1, 3) := by decide +kernel
theorem d_S_showStatus_131 : decode prog_9_method_5_code 131 = .ok (.goto (-58), 3) := by decide +kernel
theorem d_S_showStatus_134 : decode prog_9_method_5_code 134 = .ok (.return_, 1) := by decide +kernel
