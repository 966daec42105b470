theorem d_X_statement_45 : decode b_X_statement 45 = .ok (.aload 4, 2) := by decide +kernel
theorem d_X_statement_47 : decode b_X_statement 47 = .ok (.getfield 97, 3) := by decide +kernel
theorem d_X_statement_50 : decode b_X_statement 50 = .ok (.bipush 6, 2) := by decide +kernel
theorem d_X_statement_52 : decode b_X_statement 52 = .ok (.if_icmp .ne 6, 3) := by decide +kernel
theorem d_X_statement_55 : decode b_X_statement 55 = .ok (.goto 38, 3) := by decide +kernel
theorem d_X_statement_58 : decode b_X_statement 58 = .ok (.aload 4, 2) := by decide +kernel
theorem d_X_statement_60 : decode b_X_statement 60 = .ok (.invokevirtual 190, 3) := by decide +kernel
theorem d_X_statement_63 : decode b_X_statement 63 = .ok (.ifCond .eq 16, 3) := by decide +kernel
theorem d_X_statement_66 : decode b_X_statement 66 = .ok (.aload_n 0, 1) := by decide +kernel
theorem d_X_statement_67 : decode b_X_statement 67 = .ok (.getfield 50, 3) := by decide +kernel
theorem d_X_statement_70 : decode b_X_statement 70 = .ok (.aload 4, 2) := by decide +kernel
theorem d_X_statement_72 : decode b_X_statement 72 = .ok (.getfield 170, 3) := by decide +kernel
theorem d_X_statement_75 : decode b_X_statement 75 = .ok (.iload_n 2, 1) := by decide +kernel
theorem d_X_statement_76 : decode b_X_statement 76 = .ok (.invokevirtual 193, 3) := by decide +kernel
theorem d_X_statement_79 : decode b_X_statement 79 = .ok (.aload 4, 2) := by decide +kernel
theorem d_X_statement_81 : decode b_X_statement 81 = .ok (.invokevirtual 190, 3) := by decide +kernel
theorem d_X_statement_84 : decode b_X_statement 84 = .ok (.ifCond .ne 7, 3) := by decide +kernel
theorem d_X_statement_87 : decode b_X_statement 87 = .ok (.iconst 1, 1) := by decide +kernel
theorem d_X_statement_88 : decode b_X_statement 88 = .ok (.goto 4, 3) := by decide +kernel
theorem d_X_statement_91 : decode b_X_statement 91 = .ok (.iconst 0, 1) := by decide +kernel
theorem d_X_statement_92 : decode b_X_statement 92 = .ok (.istore_n 2, 1) := by decide +kernel
theorem d_X_statement_93 : decode b_X_statement 93 = .ok (.iinc 3 1, 3) := by decide +kernel
theorem d_X_statement_96 : decode b_X_statement 96 = .ok (.goto (-76), 3) := by decide +kernel
theorem d_X_statement_99 : decode b_X_statement 99 = .ok (.aload_n 0, 1) := by decide +kernel
theorem d_X_statement_100 : decode b_X_statement 100 = .ok (.getfield 50, 3) := by decide +kernel
theorem d_X_statement_103 : decode b_X_statement 103 = .ok (.getfield 196, 3) := by decide +kernel
theorem d_X_statement_106 : decode b_X_statement 106 = .ok (.ireturn, 1) := by decide +kernel
theorem d_X_about_0 : decode b_X_about 0 = .ok (.aload_n 0, 1) := by decide +kernel
theorem d_X_about_1 : decode b_X_about 1 = .ok (.iload_n 1, 1) := by decide +kernel
theorem d_X_about_2 : decode b_X_about 2 = .ok (.invokevirtual 89, 3) := by decide +kernel
theorem d_X_about_5 : decode b_X_about 5 = .ok (.astore_n 3, 1) := by decide +kernel
theorem d_X_about_6 : decode b_X_about 6 = .ok (.aload_n 3, 1) := by decide +kernel
theorem d_X_about_7 : decode b_X_about 7 = .ok (.ifnonnull 7, 3) := by decide +kernel
theorem d_X_about_10 : decode b_X_about 10 = .ok (.iconst (-1), 1) := by decide +kernel
theorem d_X_about_11 : decode b_X_about 11 = .ok (.goto 8, 3) := by decide +kernel
theorem d_X_about_14 : decode b_X_about 14 = .ok (.aload_n 3, 1) := by decide +kernel
theorem d_X_about_15 : decode b_X_about 15 = .ok (.iload_n 2, 1) := by decide +kernel
theorem d_X_about_16 : decode b_X_about 16 = .ok (.invokevirtual 201, 3) := by decide +kernel
theorem d_X_about_19 : decode b_X_about 19 = .ok (.ireturn, 1) := by decide +kernel
theorem d_X_cost_0 : decode b_X_cost 0 = .ok (.aload_n 0, 1) := by decide +kernel
theorem d_X_cost_1 : decode b_X_cost 1 = .ok (.iload_n 1, 1) := by decide +kernel
theorem d_X_cost_2 : decode b_X_cost 2 = .ok (.invokevirtual 89, 3) := by decide +kernel
theorem d_X_cost_5 : decode b_X_cost 5 = .ok (.astore_n 3, 1) := by decide +kernel
theorem d_X_cost_6 : decode b_X_cost 6 = .ok (.aload_n 3, 1) := by decide +kernel
theorem d_X_cost_7 : decode b_X_cost 7 = .ok (.ifnonnull 5, 3) := by decide +kernel
theorem d_X_cost_10 : decode b_X_cost 10 = .ok (.iconst (-1), 1) := by decide +kernel
theorem d_X_cost_11 : decode b_X_cost 11 = .ok (.ireturn, 1) := by decide +kernel
theorem d_X_cost_12 : decode b_X_cost 12 = .ok (.iload_n 2, 1) := by decide +kernel
theorem d_X_cost_13 : decode b_X_cost 13 = .ok (.iconst 0, 1) := by decide +kernel
theorem d_X_cost_14 : decode b_X_cost 14 = .ok (.ldc 204, 2) := by decide +kernel
theorem d_X_cost_16 : decode b_X_cost 16 = .ok (.invokestatic 59, 3) := by decide +kernel
theorem d_X_cost_19 : decode b_X_cost 19 = .ok (.ifCond .ne 6, 3) := by decide +kernel
theorem d_X_cost_22 : decode b_X_cost 22 = .ok (.bipush (-2), 2) := by decide +kernel
theorem d_X_cost_24 : decode b_X_cost 24 = .ok (.ireturn, 1) := by decide +kernel
theorem d_X_cost_25 : decode b_X_cost 25 = .ok (.aload_n 3, 1) := by decide +kernel
theorem d_X_cost_26 : decode b_X_cost 26 = .ok (.getfield 205, 3) := by decide +kernel
theorem d_X_cost_29 : decode b_X_cost 29 = .ok (.ldc 208, 2) := by decide +kernel
theorem d_X_cost_31 : decode b_X_cost 31 = .ok (.iload_n 2, 1) := by decide +kernel
theorem d_X_cost_32 : decode b_X_cost 32 = .ok (.isub, 1) := by decide +kernel
theorem d_X_cost_33 : decode b_X_cost 33 = .ok (.if_icmp .le 6, 3) := by decide +kernel
theorem d_X_cost_36 : decode b_X_cost 36 = .ok (.bipush (-4), 2) := by decide +kernel
theorem d_X_cost_38 : decode b_X_cost 38 = .ok (.ireturn, 1) := by decide +kernel
theorem d_X_cost_39 : decode b_X_cost 39 = .ok (.aload_n 3, 1) := by decide +kernel
theorem d_X_cost_40 : decode b_X_cost 40 = .ok (.dup, 1) := by decide +kernel
theorem d_X_cost_41 : decode b_X_cost 41 = .ok (.getfield 205, 3) := by decide +kernel
theorem d_X_cost_44 : decode b_X_cost 44 = .ok (.iload_n 2, 1) := by decide +kernel
theorem d_X_cost_45 : decode b_X_cost 45 = .ok (.iadd, 1) := by decide +kernel
theorem d_X_cost_46 : decode b_X_cost 46 = .ok (.putfield 205, 3) := by decide +kernel
theorem d_X_cost_49 : decode b_X_cost 49 = .ok (.aload_n 3, 1) := by decide +kernel
theorem d_X_cost_50 : decode b_X_cost 50 = .ok (.getfield 205, 3) := by decide +kernel
theorem d_X_cost_53 : decode b_X_cost 53 = .ok (.ireturn, 1) := by decide +kernel
theorem d_X_told_0 : decode b_X_told 0 = .ok (.aload_n 0, 1) := by decide +kernel
theorem d_X_told_1 : decode b_X_told 1 = .ok (.getfield 37, 3) := by decide +kernel
theorem d_X_told_4 : decode b_X_told 4 = .ok (.iload_n 1, 1) := by decide +kernel
theorem d_X_told_5 : decode b_X_told 5 = .ok (.iload_n 2, 1) := by decide +kernel
theorem d_X_told_6 : decode b_X_told 6 = .ok (.invokevirtual 120, 3) := by decide +kernel
theorem d_X_told_9 : decode b_X_told 9 = .ok (.ifCond .eq 15, 3) := by decide +kernel
theorem d_X_told_12 : decode b_X_told 12 = .ok (.aload_n 0, 1) := by decide +kernel
theorem d_X_told_13 : decode b_X_told 13 = .ok (.getfield 37, 3) := by decide +kernel
theorem d_X_told_16 : decode b_X_told 16 = .ok (.iload_n 1, 1) := by decide +kernel
theorem d_X_told_17 : decode b_X_told 17 = .ok (.iload_n 2, 1) := by decide +kernel
theorem d_X_told_18 : decode b_X_told 18 = .ok (.invokevirtual 130, 3) := by decide +kernel
theorem d_X_told_21 : decode b_X_told 21 = .ok (.goto 4, 3) := by decide +kernel
theorem d_X_told_24 : decode b_X_told 24 = .ok (.iconst (-1), 1) := by decide +kernel
theorem d_X_told_25 : decode b_X_told 25 = .ok (.ireturn, 1) := by decide +kernel
theorem d_X_lateness_0 : decode b_X_lateness 0 = .ok (.iload_n 1, 1) := by decide +kernel
theorem d_X_lateness_1 : decode b_X_lateness 1 = .ok (.invokestatic 55, 3) := by decide +kernel
theorem d_X_lateness_4 : decode b_X_lateness 4 = .ok (.ifCond .ne 5, 3) := by decide +kernel
theorem d_X_lateness_7 : decode b_X_lateness 7 = .ok (.iconst (-1), 1) := by decide +kernel
theorem d_X_lateness_8 : decode b_X_lateness 8 = .ok (.ireturn, 1) := by decide +kernel
theorem d_X_lateness_9 : decode b_X_lateness 9 = .ok (.iconst 0, 1) := by decide +kernel
theorem d_X_lateness_10 : decode b_X_lateness 10 = .ok (.istore_n 2, 1) := by decide +kernel
theorem d_X_lateness_11 : decode b_X_lateness 11 = .ok (.iconst 0, 1) := by decide +kernel
theorem d_X_lateness_12 : decode b_X_lateness 12 = .ok (.istore_n 3, 1) := by decide +kernel
theorem d_X_lateness_13 : decode b_X_lateness 13 = .ok (.iload_n 3, 1) := by decide +kernel
theorem d_X_lateness_14 : decode b_X_lateness 14 = .ok (.aload_n 0, 1) := by decide +kernel
theorem d_X_lateness_15 : decode b_X_lateness 15 = .ok (.getfield 24, 3) := by decide +kernel
theorem d_X_lateness_18 : decode b_X_lateness 18 = .ok (.if_icmp .ge 34, 3) := by decide +kernel
theorem d_X_lateness_21 : decode b_X_lateness 21 = .ok (.aload_n 0, 1) := by decide +kernel
theorem d_X_lateness_22 : decode b_X_lateness 22 = .ok (.getfield 17, 3) := by decide +kernel
theorem d_X_lateness_25 : decode b_X_lateness 25 = .ok (.iload_n 3, 1) := by decide +kernel
theorem d_X_lateness_26 : decode b_X_lateness 26 = .ok (.aaload, 1) := by decide +kernel
theorem d_X_lateness_27 : decode b_X_lateness 27 = .ok (.getfield 167, 3) := by decide +kernel
theorem d_X_lateness_30 : decode b_X_lateness 30 = .ok (.iload_n 1, 1) := by decide +kernel
theorem d_X_lateness_31 : decode b_X_lateness 31 = .ok (.if_icmp .ne 15, 3) := by decide +kernel
theorem d_X_lateness_34 : decode b_X_lateness 34 = .ok (.iload_n 2, 1) := by decide +kernel
theorem d_X_lateness_35 : decode b_X_lateness 35 = .ok (.aload_n 0, 1) := by decide +kernel
theorem d_X_lateness_36 : decode b_X_lateness 36 = .ok (.getfield 17, 3) := by decide +kernel
theorem d_X_lateness_39 : decode b_X_lateness 39 = .ok (.iload_n 3, 1) := by decide +kernel
theorem d_X_lateness_40 : decode b_X_lateness 40 = .ok (.aaload, 1) := by decide +kernel
theorem d_X_lateness_41 : decode b_X_lateness 41 = .ok (.invokevirtual 209, 3) := by decide +kernel
theorem d_X_lateness_44 : decode b_X_lateness 44 = .ok (.iadd, 1) := by decide +kernel
theorem d_X_lateness_45 : decode b_X_lateness 45 = .ok (.istore_n 2, 1) := by decide +kernel
theorem d_X_lateness_46 : decode b_X_lateness 46 = .ok (.iinc 3 1, 3) := by decide +kernel
theorem d_X_lateness_49 : decode b_X_lateness 49 = .ok (.goto (-36), 3) := by decide +kernel
theorem d_X_lateness_52 : decode b_X_lateness 52 = .ok (.iload_n 2, 1) := by decide +kernel
theorem d_X_lateness_53 : decode b_X_lateness 53 = .ok (.ireturn, 1) := by decide +kernel
theorem d_X_claimed_0 : decode b_X_claimed 0 = .ok (.aload_n 0, 1) := by decide +kernel
theorem d_X_claimed_1 : decode b_X_claimed 1 = .ok (.getfield 33, 3) := by decide +kernel
theorem d_X_claimed_4 : decode b_X_claimed 4 = .ok (.iload_n 1, 1) := by decide +kernel
theorem d_X_claimed_5 : decode b_X_claimed 5 = .ok (.iload_n 2, 1) := by decide +kernel
theorem d_X_claimed_6 : decode b_X_claimed 6 = .ok (.invokevirtual 120, 3) := by decide +kernel
theorem d_X_claimed_9 : decode b_X_claimed 9 = .ok (.ifCond .ne 13, 3) := by decide +kernel
theorem d_X_claimed_12 : decode b_X_claimed 12 = .ok (.new 123, 3) := by decide +kernel
theorem d_X_claimed_15 : decode b_X_claimed 15 = .ok (.dup, 1) := by decide +kernel
theorem d_X_claimed_16 : decode b_X_claimed 16 = .ok (.ldc 125, 2) := by decide +kernel
theorem d_X_claimed_18 : decode b_X_claimed 18 = .ok (.invokespecial 127, 3) := by decide +kernel
theorem d_X_claimed_21 : decode b_X_claimed 21 = .ok (.athrow, 1) := by decide +kernel
theorem d_X_claimed_22 : decode b_X_claimed 22 = .ok (.aload_n 0, 1) := by decide +kernel
theorem d_X_claimed_23 : decode b_X_claimed 23 = .ok (.getfield 33, 3) := by decide +kernel
theorem d_X_claimed_26 : decode b_X_claimed 26 = .ok (.iload_n 1, 1) := by decide +kernel
theorem d_X_claimed_27 : decode b_X_claimed 27 = .ok (.iload_n 2, 1) := by decide +kernel
theorem d_X_claimed_28 : decode b_X_claimed 28 = .ok (.invokevirtual 130, 3) := by decide +kernel
theorem d_X_claimed_31 : decode b_X_claimed 31 = .ok (.ireturn, 1) := by decide +kernel
theorem d_X_volume_0 : decode b_X_volume 0 = .ok (.aload_n 0, 1) := by decide +kernel
theorem d_X_volume_1 : decode b_X_volume 1 = .ok (.getfield 43, 3) := by decide +kernel
theorem d_X_volume_4 : decode b_X_volume 4 = .ok (.iload_n 1, 1) := by decide +kernel
theorem d_X_volume_5 : decode b_X_volume 5 = .ok (.iload_n 2, 1) := by decide +kernel
theorem d_X_volume_6 : decode b_X_volume 6 = .ok (.invokevirtual 183, 3) := by decide +kernel
theorem d_X_volume_9 : decode b_X_volume 9 = .ok (.ifCond .ne 13, 3) := by decide +kernel
theorem d_X_volume_12 : decode b_X_volume 12 = .ok (.new 123, 3) := by decide +kernel
theorem d_X_volume_15 : decode b_X_volume 15 = .ok (.dup, 1) := by decide +kernel
theorem d_X_volume_16 : decode b_X_volume 16 = .ok (.ldc 184, 2) := by decide +kernel
theorem d_X_volume_18 : decode b_X_volume 18 = .ok (.invokespecial 127, 3) := by decide +kernel
theorem d_X_volume_21 : decode b_X_volume 21 = .ok (.athrow, 1) := by decide +kernel
theorem d_X_volume_22 : decode b_X_volume 22 = .ok (.aload_n 0, 1) := by decide +kernel
theorem d_X_volume_23 : decode b_X_volume 23 = .ok (.getfield 43, 3) := by decide +kernel
theorem d_X_volume_26 : decode b_X_volume 26 = .ok (.iload_n 1, 1) := by decide +kernel
theorem d_X_volume_27 : decode b_X_volume 27 = .ok (.iload_n 2, 1) := by decide +kernel
theorem d_X_volume_28 : decode b_X_volume 28 = .ok (.invokevirtual 186, 3) := by decide +kernel
theorem d_X_volume_31 : decode b_X_volume 31 = .ok (.ireturn, 1) := by decide +kernel
theorem d_X_row_0 : decode b_X_row 0 = .ok (.aload_n 0, 1) := by decide +kernel
theorem d_X_row_1 : decode b_X_row 1 = .ok (.getfield 50, 3) := by decide +kernel
theorem d_X_row_4 : decode b_X_row 4 = .ok (.iload_n 1, 1) := by decide +kernel
theorem d_X_row_5 : decode b_X_row 5 = .ok (.iload_n 2, 1) := by decide +kernel
theorem d_X_row_6 : decode b_X_row 6 = .ok (.invokevirtual 197, 3) := by decide +kernel
theorem d_X_row_9 : decode b_X_row 9 = .ok (.ifCond .ne 13, 3) := by decide +kernel
theorem d_X_row_12 : decode b_X_row 12 = .ok (.new 123, 3) := by decide +kernel
theorem d_X_row_15 : decode b_X_row 15 = .ok (.dup, 1) := by decide +kernel
theorem d_X_row_16 : decode b_X_row 16 = .ok (.ldc 198, 2) := by decide +kernel
theorem d_X_row_18 : decode b_X_row 18 = .ok (.invokespecial 127, 3) := by decide +kernel
theorem d_X_row_21 : decode b_X_row 21 = .ok (.athrow, 1) := by decide +kernel
theorem d_X_row_22 : decode b_X_row 22 = .ok (.aload_n 0, 1) := by decide +kernel
theorem d_X_row_23 : decode b_X_row 23 = .ok (.getfield 50, 3) := by decide +kernel
theorem d_X_row_26 : decode b_X_row 26 = .ok (.iload_n 1, 1) := by decide +kernel
theorem d_X_row_27 : decode b_X_row 27 = .ok (.iload_n 2, 1) := by decide +kernel
theorem d_X_row_28 : decode b_X_row 28 = .ok (.invokevirtual 200, 3) := by decide +kernel
theorem d_X_row_31 : decode b_X_row 31 = .ok (.ireturn, 1) := by decide +kernel
