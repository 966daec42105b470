theorem d_X_init_0 : decode b_X_init 0 = .ok (.aload_n 0, 1) := by decide +kernel
theorem d_X_init_1 : decode b_X_init 1 = .ok (.invokespecial 1, 3) := by decide +kernel
theorem d_X_init_4 : decode b_X_init 4 = .ok (.aload_n 0, 1) := by decide +kernel
theorem d_X_init_5 : decode b_X_init 5 = .ok (.bipush 10, 2) := by decide +kernel
theorem d_X_init_7 : decode b_X_init 7 = .ok (.anewarray 9, 3) := by decide +kernel
theorem d_X_init_10 : decode b_X_init 10 = .ok (.putfield 11, 3) := by decide +kernel
theorem d_X_init_13 : decode b_X_init 13 = .ok (.aload_n 0, 1) := by decide +kernel
theorem d_X_init_14 : decode b_X_init 14 = .ok (.sipush 200, 3) := by decide +kernel
theorem d_X_init_17 : decode b_X_init 17 = .ok (.anewarray 15, 3) := by decide +kernel
theorem d_X_init_20 : decode b_X_init 20 = .ok (.putfield 17, 3) := by decide +kernel
theorem d_X_init_23 : decode b_X_init 23 = .ok (.aload_n 0, 1) := by decide +kernel
theorem d_X_init_24 : decode b_X_init 24 = .ok (.sipush 200, 3) := by decide +kernel
theorem d_X_init_27 : decode b_X_init 27 = .ok (.anewarray 15, 3) := by decide +kernel
theorem d_X_init_30 : decode b_X_init 30 = .ok (.putfield 21, 3) := by decide +kernel
theorem d_X_init_33 : decode b_X_init 33 = .ok (.aload_n 0, 1) := by decide +kernel
theorem d_X_init_34 : decode b_X_init 34 = .ok (.iconst 0, 1) := by decide +kernel
theorem d_X_init_35 : decode b_X_init 35 = .ok (.putfield 24, 3) := by decide +kernel
theorem d_X_init_38 : decode b_X_init 38 = .ok (.aload_n 0, 1) := by decide +kernel
theorem d_X_init_39 : decode b_X_init 39 = .ok (.new 28, 3) := by decide +kernel
theorem d_X_init_42 : decode b_X_init 42 = .ok (.dup, 1) := by decide +kernel
theorem d_X_init_43 : decode b_X_init 43 = .ok (.sipush 200, 3) := by decide +kernel
theorem d_X_init_46 : decode b_X_init 46 = .ok (.invokespecial 30, 3) := by decide +kernel
theorem d_X_init_49 : decode b_X_init 49 = .ok (.putfield 33, 3) := by decide +kernel
theorem d_X_init_52 : decode b_X_init 52 = .ok (.aload_n 0, 1) := by decide +kernel
theorem d_X_init_53 : decode b_X_init 53 = .ok (.new 28, 3) := by decide +kernel
theorem d_X_init_56 : decode b_X_init 56 = .ok (.dup, 1) := by decide +kernel
theorem d_X_init_57 : decode b_X_init 57 = .ok (.bipush 100, 2) := by decide +kernel
theorem d_X_init_59 : decode b_X_init 59 = .ok (.invokespecial 30, 3) := by decide +kernel
theorem d_X_init_62 : decode b_X_init 62 = .ok (.putfield 37, 3) := by decide +kernel
theorem d_X_init_65 : decode b_X_init 65 = .ok (.aload_n 0, 1) := by decide +kernel
theorem d_X_init_66 : decode b_X_init 66 = .ok (.new 40, 3) := by decide +kernel
theorem d_X_init_69 : decode b_X_init 69 = .ok (.dup, 1) := by decide +kernel
theorem d_X_init_70 : decode b_X_init 70 = .ok (.invokespecial 42, 3) := by decide +kernel
theorem d_X_init_73 : decode b_X_init 73 = .ok (.putfield 43, 3) := by decide +kernel
theorem d_X_init_76 : decode b_X_init 76 = .ok (.aload_n 0, 1) := by decide +kernel
theorem d_X_init_77 : decode b_X_init 77 = .ok (.new 47, 3) := by decide +kernel
theorem d_X_init_80 : decode b_X_init 80 = .ok (.dup, 1) := by decide +kernel
theorem d_X_init_81 : decode b_X_init 81 = .ok (.invokespecial 49, 3) := by decide +kernel
theorem d_X_init_84 : decode b_X_init 84 = .ok (.putfield 50, 3) := by decide +kernel
theorem d_X_init_87 : decode b_X_init 87 = .ok (.iconst 0, 1) := by decide +kernel
theorem d_X_init_88 : decode b_X_init 88 = .ok (.istore_n 1, 1) := by decide +kernel
theorem d_X_init_89 : decode b_X_init 89 = .ok (.iload_n 1, 1) := by decide +kernel
theorem d_X_init_90 : decode b_X_init 90 = .ok (.bipush 10, 2) := by decide +kernel
theorem d_X_init_92 : decode b_X_init 92 = .ok (.if_icmp .ge 22, 3) := by decide +kernel
theorem d_X_init_95 : decode b_X_init 95 = .ok (.aload_n 0, 1) := by decide +kernel
theorem d_X_init_96 : decode b_X_init 96 = .ok (.getfield 11, 3) := by decide +kernel
theorem d_X_init_99 : decode b_X_init 99 = .ok (.iload_n 1, 1) := by decide +kernel
theorem d_X_init_100 : decode b_X_init 100 = .ok (.new 9, 3) := by decide +kernel
theorem d_X_init_103 : decode b_X_init 103 = .ok (.dup, 1) := by decide +kernel
theorem d_X_init_104 : decode b_X_init 104 = .ok (.invokespecial 54, 3) := by decide +kernel
theorem d_X_init_107 : decode b_X_init 107 = .ok (.aastore, 1) := by decide +kernel
theorem d_X_init_108 : decode b_X_init 108 = .ok (.iinc 1 1, 3) := by decide +kernel
theorem d_X_init_111 : decode b_X_init 111 = .ok (.goto (-22), 3) := by decide +kernel
theorem d_X_init_114 : decode b_X_init 114 = .ok (.return_, 1) := by decide +kernel
theorem d_X_rule_0 : decode b_X_rule 0 = .ok (.iload_n 1, 1) := by decide +kernel
theorem d_X_rule_1 : decode b_X_rule 1 = .ok (.invokestatic 55, 3) := by decide +kernel
theorem d_X_rule_4 : decode b_X_rule 4 = .ok (.ifCond .ne 5, 3) := by decide +kernel
theorem d_X_rule_7 : decode b_X_rule 7 = .ok (.iconst (-1), 1) := by decide +kernel
theorem d_X_rule_8 : decode b_X_rule 8 = .ok (.ireturn, 1) := by decide +kernel
theorem d_X_rule_9 : decode b_X_rule 9 = .ok (.iload_n 2, 1) := by decide +kernel
theorem d_X_rule_10 : decode b_X_rule 10 = .ok (.iconst 1, 1) := by decide +kernel
theorem d_X_rule_11 : decode b_X_rule 11 = .ok (.sipush 1000, 3) := by decide +kernel
theorem d_X_rule_14 : decode b_X_rule 14 = .ok (.invokestatic 59, 3) := by decide +kernel
theorem d_X_rule_17 : decode b_X_rule 17 = .ok (.ifCond .eq 25, 3) := by decide +kernel
theorem d_X_rule_20 : decode b_X_rule 20 = .ok (.iload_n 3, 1) := by decide +kernel
theorem d_X_rule_21 : decode b_X_rule 21 = .ok (.iconst 1, 1) := by decide +kernel
theorem d_X_rule_22 : decode b_X_rule 22 = .ok (.sipush 1000, 3) := by decide +kernel
theorem d_X_rule_25 : decode b_X_rule 25 = .ok (.invokestatic 59, 3) := by decide +kernel
theorem d_X_rule_28 : decode b_X_rule 28 = .ok (.ifCond .eq 14, 3) := by decide +kernel
theorem d_X_rule_31 : decode b_X_rule 31 = .ok (.iload 4, 2) := by decide +kernel
theorem d_X_rule_33 : decode b_X_rule 33 = .ok (.iconst 0, 1) := by decide +kernel
theorem d_X_rule_34 : decode b_X_rule 34 = .ok (.bipush 9, 2) := by decide +kernel
theorem d_X_rule_36 : decode b_X_rule 36 = .ok (.invokestatic 59, 3) := by decide +kernel
theorem d_X_rule_39 : decode b_X_rule 39 = .ok (.ifCond .ne 6, 3) := by decide +kernel
theorem d_X_rule_42 : decode b_X_rule 42 = .ok (.bipush (-2), 2) := by decide +kernel
theorem d_X_rule_44 : decode b_X_rule 44 = .ok (.ireturn, 1) := by decide +kernel
theorem d_X_rule_45 : decode b_X_rule 45 = .ok (.aload_n 0, 1) := by decide +kernel
theorem d_X_rule_46 : decode b_X_rule 46 = .ok (.getfield 11, 3) := by decide +kernel
theorem d_X_rule_49 : decode b_X_rule 49 = .ok (.iload_n 1, 1) := by decide +kernel
theorem d_X_rule_50 : decode b_X_rule 50 = .ok (.aaload, 1) := by decide +kernel
theorem d_X_rule_51 : decode b_X_rule 51 = .ok (.astore 5, 2) := by decide +kernel
theorem d_X_rule_53 : decode b_X_rule 53 = .ok (.aload 5, 2) := by decide +kernel
theorem d_X_rule_55 : decode b_X_rule 55 = .ok (.iload_n 2, 1) := by decide +kernel
theorem d_X_rule_56 : decode b_X_rule 56 = .ok (.putfield 63, 3) := by decide +kernel
theorem d_X_rule_59 : decode b_X_rule 59 = .ok (.aload 5, 2) := by decide +kernel
theorem d_X_rule_61 : decode b_X_rule 61 = .ok (.iload_n 3, 1) := by decide +kernel
theorem d_X_rule_62 : decode b_X_rule 62 = .ok (.putfield 66, 3) := by decide +kernel
theorem d_X_rule_65 : decode b_X_rule 65 = .ok (.aload 5, 2) := by decide +kernel
theorem d_X_rule_67 : decode b_X_rule 67 = .ok (.iload 4, 2) := by decide +kernel
theorem d_X_rule_69 : decode b_X_rule 69 = .ok (.putfield 69, 3) := by decide +kernel
theorem d_X_rule_72 : decode b_X_rule 72 = .ok (.iconst 1, 1) := by decide +kernel
theorem d_X_rule_73 : decode b_X_rule 73 = .ok (.ireturn, 1) := by decide +kernel
theorem d_X_isPattern_0 : decode b_X_isPattern 0 = .ok (.iload_n 0, 1) := by decide +kernel
theorem d_X_isPattern_1 : decode b_X_isPattern 1 = .ok (.iconst 0, 1) := by decide +kernel
theorem d_X_isPattern_2 : decode b_X_isPattern 2 = .ok (.bipush 9, 2) := by decide +kernel
theorem d_X_isPattern_4 : decode b_X_isPattern 4 = .ok (.invokestatic 59, 3) := by decide +kernel
theorem d_X_isPattern_7 : decode b_X_isPattern 7 = .ok (.ireturn, 1) := by decide +kernel
theorem d_X_within_0 : decode b_X_within 0 = .ok (.iload_n 0, 1) := by decide +kernel
theorem d_X_within_1 : decode b_X_within 1 = .ok (.iload_n 1, 1) := by decide +kernel
theorem d_X_within_2 : decode b_X_within 2 = .ok (.if_icmp .lt 12, 3) := by decide +kernel
theorem d_X_within_5 : decode b_X_within 5 = .ok (.iload_n 0, 1) := by decide +kernel
theorem d_X_within_6 : decode b_X_within 6 = .ok (.iload_n 2, 1) := by decide +kernel
theorem d_X_within_7 : decode b_X_within 7 = .ok (.if_icmp .gt 7, 3) := by decide +kernel
theorem d_X_within_10 : decode b_X_within 10 = .ok (.iconst 1, 1) := by decide +kernel
theorem d_X_within_11 : decode b_X_within 11 = .ok (.goto 4, 3) := by decide +kernel
theorem d_X_within_14 : decode b_X_within 14 = .ok (.iconst 0, 1) := by decide +kernel
theorem d_X_within_15 : decode b_X_within 15 = .ok (.ireturn, 1) := by decide +kernel
theorem d_X_issue_0 : decode b_X_issue 0 = .ok (.iload_n 1, 1) := by decide +kernel
theorem d_X_issue_1 : decode b_X_issue 1 = .ok (.invokestatic 55, 3) := by decide +kernel
theorem d_X_issue_4 : decode b_X_issue 4 = .ok (.ifCond .ne 5, 3) := by decide +kernel
theorem d_X_issue_7 : decode b_X_issue 7 = .ok (.iconst (-1), 1) := by decide +kernel
theorem d_X_issue_8 : decode b_X_issue 8 = .ok (.ireturn, 1) := by decide +kernel
theorem d_X_issue_9 : decode b_X_issue 9 = .ok (.iload_n 2, 1) := by decide +kernel
theorem d_X_issue_10 : decode b_X_issue 10 = .ok (.iconst 1, 1) := by decide +kernel
theorem d_X_issue_11 : decode b_X_issue 11 = .ok (.sipush 9999, 3) := by decide +kernel
theorem d_X_issue_14 : decode b_X_issue 14 = .ok (.invokestatic 59, 3) := by decide +kernel
theorem d_X_issue_17 : decode b_X_issue 17 = .ok (.ifCond .eq 15, 3) := by decide +kernel
theorem d_X_issue_20 : decode b_X_issue 20 = .ok (.iload_n 3, 1) := by decide +kernel
theorem d_X_issue_21 : decode b_X_issue 21 = .ok (.iconst (-1), 1) := by decide +kernel
theorem d_X_issue_22 : decode b_X_issue 22 = .ok (.if_icmp .eq 13, 3) := by decide +kernel
theorem d_X_issue_25 : decode b_X_issue 25 = .ok (.iload_n 3, 1) := by decide +kernel
theorem d_X_issue_26 : decode b_X_issue 26 = .ok (.invokestatic 72, 3) := by decide +kernel
theorem d_X_issue_29 : decode b_X_issue 29 = .ok (.ifCond .ne 6, 3) := by decide +kernel
theorem d_X_issue_32 : decode b_X_issue 32 = .ok (.bipush (-2), 2) := by decide +kernel
theorem d_X_issue_34 : decode b_X_issue 34 = .ok (.ireturn, 1) := by decide +kernel
theorem d_X_issue_35 : decode b_X_issue 35 = .ok (.aload_n 0, 1) := by decide +kernel
theorem d_X_issue_36 : decode b_X_issue 36 = .ok (.iload_n 1, 1) := by decide +kernel
theorem d_X_issue_37 : decode b_X_issue 37 = .ok (.iload_n 2, 1) := by decide +kernel
theorem d_X_issue_38 : decode b_X_issue 38 = .ok (.invokevirtual 75, 3) := by decide +kernel
theorem d_X_issue_41 : decode b_X_issue 41 = .ok (.ifCond .eq 6, 3) := by decide +kernel
theorem d_X_issue_44 : decode b_X_issue 44 = .ok (.bipush (-3), 2) := by decide +kernel
theorem d_X_issue_46 : decode b_X_issue 46 = .ok (.ireturn, 1) := by decide +kernel
theorem d_X_issue_47 : decode b_X_issue 47 = .ok (.aload_n 0, 1) := by decide +kernel
theorem d_X_issue_48 : decode b_X_issue 48 = .ok (.getfield 24, 3) := by decide +kernel
theorem d_X_issue_51 : decode b_X_issue 51 = .ok (.sipush 200, 3) := by decide +kernel
theorem d_X_issue_54 : decode b_X_issue 54 = .ok (.if_icmp .lt 6, 3) := by decide +kernel
theorem d_X_issue_57 : decode b_X_issue 57 = .ok (.bipush (-4), 2) := by decide +kernel
theorem d_X_issue_59 : decode b_X_issue 59 = .ok (.ireturn, 1) := by decide +kernel
theorem d_X_issue_60 : decode b_X_issue 60 = .ok (.new 15, 3) := by decide +kernel
theorem d_X_issue_63 : decode b_X_issue 63 = .ok (.dup, 1) := by decide +kernel
theorem d_X_issue_64 : decode b_X_issue 64 = .ok (.aload_n 0, 1) := by decide +kernel
theorem d_X_issue_65 : decode b_X_issue 65 = .ok (.getfield 24, 3) := by decide +kernel
theorem d_X_issue_68 : decode b_X_issue 68 = .ok (.iload_n 1, 1) := by decide +kernel
theorem d_X_issue_69 : decode b_X_issue 69 = .ok (.iload_n 2, 1) := by decide +kernel
theorem d_X_issue_70 : decode b_X_issue 70 = .ok (.iload_n 3, 1) := by decide +kernel
theorem d_X_issue_71 : decode b_X_issue 71 = .ok (.iconst 0, 1) := by decide +kernel
theorem d_X_issue_72 : decode b_X_issue 72 = .ok (.invokespecial 79, 3) := by decide +kernel
theorem d_X_issue_75 : decode b_X_issue 75 = .ok (.astore 4, 2) := by decide +kernel
theorem d_X_issue_77 : decode b_X_issue 77 = .ok (.aload_n 0, 1) := by decide +kernel
theorem d_X_issue_78 : decode b_X_issue 78 = .ok (.aload 4, 2) := by decide +kernel
theorem d_X_issue_80 : decode b_X_issue 80 = .ok (.invokevirtual 82, 3) := by decide +kernel
theorem d_X_issue_83 : decode b_X_issue 83 = .ok (.aload 4, 2) := by decide +kernel
theorem d_X_issue_85 : decode b_X_issue 85 = .ok (.getfield 86, 3) := by decide +kernel
theorem d_X_issue_88 : decode b_X_issue 88 = .ok (.ireturn, 1) := by decide +kernel
theorem d_X_isDay_0 : decode b_X_isDay 0 = .ok (.iload_n 0, 1) := by decide +kernel
theorem d_X_isDay_1 : decode b_X_isDay 1 = .ok (.iconst 0, 1) := by decide +kernel
theorem d_X_isDay_2 : decode b_X_isDay 2 = .ok (.ldc 212, 2) := by decide +kernel
theorem d_X_isDay_4 : decode b_X_isDay 4 = .ok (.invokestatic 59, 3) := by decide +kernel
theorem d_X_isDay_7 : decode b_X_isDay 7 = .ok (.ireturn, 1) := by decide +kernel
theorem d_X_hasOrdinal_0 : decode b_X_hasOrdinal 0 = .ok (.iconst 0, 1) := by decide +kernel
theorem d_X_hasOrdinal_1 : decode b_X_hasOrdinal 1 = .ok (.istore_n 3, 1) := by decide +kernel
theorem d_X_hasOrdinal_2 : decode b_X_hasOrdinal 2 = .ok (.iload_n 3, 1) := by decide +kernel
theorem d_X_hasOrdinal_3 : decode b_X_hasOrdinal 3 = .ok (.aload_n 0, 1) := by decide +kernel
theorem d_X_hasOrdinal_4 : decode b_X_hasOrdinal 4 = .ok (.getfield 24, 3) := by decide +kernel
theorem d_X_hasOrdinal_7 : decode b_X_hasOrdinal 7 = .ok (.if_icmp .ge 37, 3) := by decide +kernel
theorem d_X_hasOrdinal_10 : decode b_X_hasOrdinal 10 = .ok (.aload_n 0, 1) := by decide +kernel
theorem d_X_hasOrdinal_11 : decode b_X_hasOrdinal 11 = .ok (.getfield 17, 3) := by decide +kernel
theorem d_X_hasOrdinal_14 : decode b_X_hasOrdinal 14 = .ok (.iload_n 3, 1) := by decide +kernel
theorem d_X_hasOrdinal_15 : decode b_X_hasOrdinal 15 = .ok (.aaload, 1) := by decide +kernel
theorem d_X_hasOrdinal_16 : decode b_X_hasOrdinal 16 = .ok (.getfield 167, 3) := by decide +kernel
theorem d_X_hasOrdinal_19 : decode b_X_hasOrdinal 19 = .ok (.iload_n 1, 1) := by decide +kernel
theorem d_X_hasOrdinal_20 : decode b_X_hasOrdinal 20 = .ok (.if_icmp .ne 18, 3) := by decide +kernel
theorem d_X_hasOrdinal_23 : decode b_X_hasOrdinal 23 = .ok (.aload_n 0, 1) := by decide +kernel
theorem d_X_hasOrdinal_24 : decode b_X_hasOrdinal 24 = .ok (.getfield 17, 3) := by decide +kernel
theorem d_X_hasOrdinal_27 : decode b_X_hasOrdinal 27 = .ok (.iload_n 3, 1) := by decide +kernel
theorem d_X_hasOrdinal_28 : decode b_X_hasOrdinal 28 = .ok (.aaload, 1) := by decide +kernel
theorem d_X_hasOrdinal_29 : decode b_X_hasOrdinal 29 = .ok (.getfield 170, 3) := by decide +kernel
theorem d_X_hasOrdinal_32 : decode b_X_hasOrdinal 32 = .ok (.iload_n 2, 1) := by decide +kernel
theorem d_X_hasOrdinal_33 : decode b_X_hasOrdinal 33 = .ok (.if_icmp .ne 5, 3) := by decide +kernel
theorem d_X_hasOrdinal_36 : decode b_X_hasOrdinal 36 = .ok (.iconst 1, 1) := by decide +kernel
theorem d_X_hasOrdinal_37 : decode b_X_hasOrdinal 37 = .ok (.ireturn, 1) := by decide +kernel
theorem d_X_hasOrdinal_38 : decode b_X_hasOrdinal 38 = .ok (.iinc 3 1, 3) := by decide +kernel
theorem d_X_hasOrdinal_41 : decode b_X_hasOrdinal 41 = .ok (.goto (-39), 3) := by decide +kernel
theorem d_X_hasOrdinal_44 : decode b_X_hasOrdinal 44 = .ok (.iconst 0, 1) := by decide +kernel
theorem d_X_hasOrdinal_45 : decode b_X_hasOrdinal 45 = .ok (.ireturn, 1) := by decide +kernel
theorem d_X_keep_0 : decode b_X_keep 0 = .ok (.aload_n 0, 1) := by decide +kernel
theorem d_X_keep_1 : decode b_X_keep 1 = .ok (.getfield 24, 3) := by decide +kernel
theorem d_X_keep_4 : decode b_X_keep 4 = .ok (.sipush 200, 3) := by decide +kernel
theorem d_X_keep_7 : decode b_X_keep 7 = .ok (.if_icmp .lt 4, 3) := by decide +kernel
theorem d_X_keep_10 : decode b_X_keep 10 = .ok (.return_, 1) := by decide +kernel
theorem d_X_keep_11 : decode b_X_keep 11 = .ok (.aload_n 0, 1) := by decide +kernel
theorem d_X_keep_12 : decode b_X_keep 12 = .ok (.getfield 24, 3) := by decide +kernel
theorem d_X_keep_15 : decode b_X_keep 15 = .ok (.istore_n 2, 1) := by decide +kernel
theorem d_X_keep_16 : decode b_X_keep 16 = .ok (.iload_n 2, 1) := by decide +kernel
theorem d_X_keep_17 : decode b_X_keep 17 = .ok (.ifCond .le 41, 3) := by decide +kernel
theorem d_X_keep_20 : decode b_X_keep 20 = .ok (.aload_n 0, 1) := by decide +kernel
theorem d_X_keep_21 : decode b_X_keep 21 = .ok (.getfield 21, 3) := by decide +kernel
theorem d_X_keep_24 : decode b_X_keep 24 = .ok (.iload_n 2, 1) := by decide +kernel
theorem d_X_keep_25 : decode b_X_keep 25 = .ok (.iconst 1, 1) := by decide +kernel
theorem d_X_keep_26 : decode b_X_keep 26 = .ok (.isub, 1) := by decide +kernel
theorem d_X_keep_27 : decode b_X_keep 27 = .ok (.aaload, 1) := by decide +kernel
theorem d_X_keep_28 : decode b_X_keep 28 = .ok (.getfield 170, 3) := by decide +kernel
theorem d_X_keep_31 : decode b_X_keep 31 = .ok (.aload_n 1, 1) := by decide +kernel
theorem d_X_keep_32 : decode b_X_keep 32 = .ok (.getfield 170, 3) := by decide +kernel
theorem d_X_keep_35 : decode b_X_keep 35 = .ok (.if_icmp .le 23, 3) := by decide +kernel
theorem d_X_keep_38 : decode b_X_keep 38 = .ok (.aload_n 0, 1) := by decide +kernel
theorem d_X_keep_39 : decode b_X_keep 39 = .ok (.getfield 21, 3) := by decide +kernel
theorem d_X_keep_42 : decode b_X_keep 42 = .ok (.iload_n 2, 1) := by decide +kernel
theorem d_X_keep_43 : decode b_X_keep 43 = .ok (.aload_n 0, 1) := by decide +kernel
theorem d_X_keep_44 : decode b_X_keep 44 = .ok (.getfield 21, 3) := by decide +kernel
theorem d_X_keep_47 : decode b_X_keep 47 = .ok (.iload_n 2, 1) := by decide +kernel
theorem d_X_keep_48 : decode b_X_keep 48 = .ok (.iconst 1, 1) := by decide +kernel
theorem d_X_keep_49 : decode b_X_keep 49 = .ok (.isub, 1) := by decide +kernel
theorem d_X_keep_50 : decode b_X_keep 50 = .ok (.aaload, 1) := by decide +kernel
theorem d_X_keep_51 : decode b_X_keep 51 = .ok (.aastore, 1) := by decide +kernel
theorem d_X_keep_52 : decode b_X_keep 52 = .ok (.iinc 2 (-1), 3) := by decide +kernel
theorem d_X_keep_55 : decode b_X_keep 55 = .ok (.goto (-39), 3) := by decide +kernel
theorem d_X_keep_58 : decode b_X_keep 58 = .ok (.aload_n 0, 1) := by decide +kernel
theorem d_X_keep_59 : decode b_X_keep 59 = .ok (.getfield 21, 3) := by decide +kernel
theorem d_X_keep_62 : decode b_X_keep 62 = .ok (.iload_n 2, 1) := by decide +kernel
theorem d_X_keep_63 : decode b_X_keep 63 = .ok (.aload_n 1, 1) := by decide +kernel
theorem d_X_keep_64 : decode b_X_keep 64 = .ok (.aastore, 1) := by decide +kernel
theorem d_X_keep_65 : decode b_X_keep 65 = .ok (.aload_n 0, 1) := by decide +kernel
theorem d_X_keep_66 : decode b_X_keep 66 = .ok (.getfield 17, 3) := by decide +kernel
theorem d_X_keep_69 : decode b_X_keep 69 = .ok (.aload_n 0, 1) := by decide +kernel
theorem d_X_keep_70 : decode b_X_keep 70 = .ok (.getfield 24, 3) := by decide +kernel
theorem d_X_keep_73 : decode b_X_keep 73 = .ok (.aload_n 1, 1) := by decide +kernel
theorem d_X_keep_74 : decode b_X_keep 74 = .ok (.aastore, 1) := by decide +kernel
theorem d_X_keep_75 : decode b_X_keep 75 = .ok (.aload_n 0, 1) := by decide +kernel
theorem d_X_keep_76 : decode b_X_keep 76 = .ok (.dup, 1) := by decide +kernel
theorem d_X_keep_77 : decode b_X_keep 77 = .ok (.getfield 24, 3) := by decide +kernel
theorem d_X_keep_80 : decode b_X_keep 80 = .ok (.iconst 1, 1) := by decide +kernel
theorem d_X_keep_81 : decode b_X_keep 81 = .ok (.iadd, 1) := by decide +kernel
theorem d_X_keep_82 : decode b_X_keep 82 = .ok (.putfield 24, 3) := by decide +kernel
theorem d_X_keep_85 : decode b_X_keep 85 = .ok (.return_, 1) := by decide +kernel
theorem d_X_checkIn_0 : decode b_X_checkIn 0 = .ok (.aload_n 0, 1) := by decide +kernel
theorem d_X_checkIn_1 : decode b_X_checkIn 1 = .ok (.iload_n 1, 1) := by decide +kernel
theorem d_X_checkIn_2 : decode b_X_checkIn 2 = .ok (.invokevirtual 89, 3) := by decide +kernel
theorem d_X_checkIn_5 : decode b_X_checkIn 5 = .ok (.astore 4, 2) := by decide +kernel
theorem d_X_checkIn_7 : decode b_X_checkIn 7 = .ok (.aload 4, 2) := by decide +kernel
theorem d_X_checkIn_9 : decode b_X_checkIn 9 = .ok (.ifnonnull 5, 3) := by decide +kernel
theorem d_X_checkIn_12 : decode b_X_checkIn 12 = .ok (.iconst (-1), 1) := by decide +kernel
theorem d_X_checkIn_13 : decode b_X_checkIn 13 = .ok (.ireturn, 1) := by decide +kernel
theorem d_X_checkIn_14 : decode b_X_checkIn 14 = .ok (.iload_n 2, 1) := by decide +kernel
theorem d_X_checkIn_15 : decode b_X_checkIn 15 = .ok (.iconst 1, 1) := by decide +kernel
theorem d_X_checkIn_16 : decode b_X_checkIn 16 = .ok (.bipush 99, 2) := by decide +kernel
theorem d_X_checkIn_18 : decode b_X_checkIn 18 = .ok (.invokestatic 59, 3) := by decide +kernel
theorem d_X_checkIn_21 : decode b_X_checkIn 21 = .ok (.ifCond .eq 10, 3) := by decide +kernel
theorem d_X_checkIn_24 : decode b_X_checkIn 24 = .ok (.iload_n 3, 1) := by decide +kernel
theorem d_X_checkIn_25 : decode b_X_checkIn 25 = .ok (.invokestatic 72, 3) := by decide +kernel
theorem d_X_checkIn_28 : decode b_X_checkIn 28 = .ok (.ifCond .ne 6, 3) := by decide +kernel
theorem d_X_checkIn_31 : decode b_X_checkIn 31 = .ok (.bipush (-2), 2) := by decide +kernel
theorem d_X_checkIn_33 : decode b_X_checkIn 33 = .ok (.ireturn, 1) := by decide +kernel
theorem d_X_checkIn_34 : decode b_X_checkIn 34 = .ok (.aload 4, 2) := by decide +kernel
theorem d_X_checkIn_36 : decode b_X_checkIn 36 = .ok (.invokevirtual 93, 3) := by decide +kernel
theorem d_X_checkIn_39 : decode b_X_checkIn 39 = .ok (.ifCond .ne 6, 3) := by decide +kernel
theorem d_X_checkIn_42 : decode b_X_checkIn 42 = .ok (.bipush (-3), 2) := by decide +kernel
theorem d_X_checkIn_44 : decode b_X_checkIn 44 = .ok (.ireturn, 1) := by decide +kernel
theorem d_X_checkIn_45 : decode b_X_checkIn 45 = .ok (.aload 4, 2) := by decide +kernel
theorem d_X_checkIn_47 : decode b_X_checkIn 47 = .ok (.getfield 97, 3) := by decide +kernel
theorem d_X_checkIn_50 : decode b_X_checkIn 50 = .ok (.ifCond .ne 7, 3) := by decide +kernel
theorem d_X_checkIn_53 : decode b_X_checkIn 53 = .ok (.iconst 1, 1) := by decide +kernel
theorem d_X_checkIn_54 : decode b_X_checkIn 54 = .ok (.goto 4, 3) := by decide +kernel
theorem d_X_checkIn_57 : decode b_X_checkIn 57 = .ok (.iconst 0, 1) := by decide +kernel
theorem d_X_checkIn_58 : decode b_X_checkIn 58 = .ok (.istore 5, 2) := by decide +kernel
theorem d_X_checkIn_60 : decode b_X_checkIn 60 = .ok (.iload 5, 2) := by decide +kernel
theorem d_X_checkIn_62 : decode b_X_checkIn 62 = .ok (.ifCond .eq 19, 3) := by decide +kernel
theorem d_X_checkIn_65 : decode b_X_checkIn 65 = .ok (.aload_n 0, 1) := by decide +kernel
theorem d_X_checkIn_66 : decode b_X_checkIn 66 = .ok (.getfield 37, 3) := by decide +kernel
theorem d_X_checkIn_69 : decode b_X_checkIn 69 = .ok (.iconst 1, 1) := by decide +kernel
theorem d_X_checkIn_70 : decode b_X_checkIn 70 = .ok (.aload 4, 2) := by decide +kernel
theorem d_X_checkIn_72 : decode b_X_checkIn 72 = .ok (.getfield 86, 3) := by decide +kernel
theorem d_X_checkIn_75 : decode b_X_checkIn 75 = .ok (.invokevirtual 100, 3) := by decide +kernel
theorem d_X_checkIn_78 : decode b_X_checkIn 78 = .ok (.goto 34, 3) := by decide +kernel
theorem d_X_checkIn_81 : decode b_X_checkIn 81 = .ok (.aload 4, 2) := by decide +kernel
theorem d_X_checkIn_83 : decode b_X_checkIn 83 = .ok (.getfield 97, 3) := by decide +kernel
theorem d_X_checkIn_86 : decode b_X_checkIn 86 = .ok (.iconst 4, 1) := by decide +kernel
theorem d_X_checkIn_87 : decode b_X_checkIn 87 = .ok (.if_icmp .eq 12, 3) := by decide +kernel
theorem d_X_checkIn_90 : decode b_X_checkIn 90 = .ok (.iload_n 3, 1) := by decide +kernel
theorem d_X_checkIn_91 : decode b_X_checkIn 91 = .ok (.aload 4, 2) := by decide +kernel
theorem d_X_checkIn_93 : decode b_X_checkIn 93 = .ok (.getfield 104, 3) := by decide +kernel
theorem d_X_checkIn_96 : decode b_X_checkIn 96 = .ok (.if_icmp .le 16, 3) := by decide +kernel
theorem d_X_checkIn_99 : decode b_X_checkIn 99 = .ok (.aload_n 0, 1) := by decide +kernel
theorem d_X_checkIn_100 : decode b_X_checkIn 100 = .ok (.getfield 37, 3) := by decide +kernel
theorem d_X_checkIn_103 : decode b_X_checkIn 103 = .ok (.iconst 2, 1) := by decide +kernel
theorem d_X_checkIn_104 : decode b_X_checkIn 104 = .ok (.aload 4, 2) := by decide +kernel
theorem d_X_checkIn_106 : decode b_X_checkIn 106 = .ok (.getfield 86, 3) := by decide +kernel
theorem d_X_checkIn_109 : decode b_X_checkIn 109 = .ok (.invokevirtual 100, 3) := by decide +kernel
theorem d_X_checkIn_112 : decode b_X_checkIn 112 = .ok (.aload 4, 2) := by decide +kernel
theorem d_X_checkIn_114 : decode b_X_checkIn 114 = .ok (.iload_n 2, 1) := by decide +kernel
theorem d_X_checkIn_115 : decode b_X_checkIn 115 = .ok (.iload_n 3, 1) := by decide +kernel
theorem d_X_checkIn_116 : decode b_X_checkIn 116 = .ok (.invokevirtual 107, 3) := by decide +kernel
theorem d_X_checkIn_119 : decode b_X_checkIn 119 = .ok (.iload 5, 2) := by decide +kernel
theorem d_X_checkIn_121 : decode b_X_checkIn 121 = .ok (.ifCond .eq 7, 3) := by decide +kernel
theorem d_X_checkIn_124 : decode b_X_checkIn 124 = .ok (.iconst 0, 1) := by decide +kernel
theorem d_X_checkIn_125 : decode b_X_checkIn 125 = .ok (.goto 4, 3) := by decide +kernel
theorem d_X_checkIn_128 : decode b_X_checkIn 128 = .ok (.iconst 1, 1) := by decide +kernel
theorem d_X_checkIn_129 : decode b_X_checkIn 129 = .ok (.ireturn, 1) := by decide +kernel
theorem d_X_find_0 : decode b_X_find 0 = .ok (.iload_n 1, 1) := by decide +kernel
theorem d_X_find_1 : decode b_X_find 1 = .ok (.iconst 0, 1) := by decide +kernel
theorem d_X_find_2 : decode b_X_find 2 = .ok (.aload_n 0, 1) := by decide +kernel
theorem d_X_find_3 : decode b_X_find 3 = .ok (.getfield 24, 3) := by decide +kernel
theorem d_X_find_6 : decode b_X_find 6 = .ok (.iconst 1, 1) := by decide +kernel
theorem d_X_find_7 : decode b_X_find 7 = .ok (.isub, 1) := by decide +kernel
theorem d_X_find_8 : decode b_X_find 8 = .ok (.invokestatic 59, 3) := by decide +kernel
theorem d_X_find_11 : decode b_X_find 11 = .ok (.ifCond .eq 12, 3) := by decide +kernel
theorem d_X_find_14 : decode b_X_find 14 = .ok (.aload_n 0, 1) := by decide +kernel
theorem d_X_find_15 : decode b_X_find 15 = .ok (.getfield 17, 3) := by decide +kernel
theorem d_X_find_18 : decode b_X_find 18 = .ok (.iload_n 1, 1) := by decide +kernel
theorem d_X_find_19 : decode b_X_find 19 = .ok (.aaload, 1) := by decide +kernel
theorem d_X_find_20 : decode b_X_find 20 = .ok (.goto 4, 3) := by decide +kernel
theorem d_X_find_23 : decode b_X_find 23 = .ok (.aconst_null, 1) := by decide +kernel
theorem d_X_find_24 : decode b_X_find 24 = .ok (.areturn, 1) := by decide +kernel
theorem d_X_claim_0 : decode b_X_claim 0 = .ok (.iload_n 1, 1) := by decide +kernel
theorem d_X_claim_1 : decode b_X_claim 1 = .ok (.invokestatic 72, 3) := by decide +kernel
theorem d_X_claim_4 : decode b_X_claim 4 = .ok (.ifCond .ne 6, 3) := by decide +kernel
theorem d_X_claim_7 : decode b_X_claim 7 = .ok (.bipush (-2), 2) := by decide +kernel
theorem d_X_claim_9 : decode b_X_claim 9 = .ok (.ireturn, 1) := by decide +kernel
theorem d_X_claim_10 : decode b_X_claim 10 = .ok (.aload_n 0, 1) := by decide +kernel
theorem d_X_claim_11 : decode b_X_claim 11 = .ok (.getfield 33, 3) := by decide +kernel
theorem d_X_claim_14 : decode b_X_claim 14 = .ok (.invokevirtual 110, 3) := by decide +kernel
theorem d_X_claim_17 : decode b_X_claim 17 = .ok (.iconst 0, 1) := by decide +kernel
theorem d_X_claim_18 : decode b_X_claim 18 = .ok (.istore_n 2, 1) := by decide +kernel
theorem d_X_claim_19 : decode b_X_claim 19 = .ok (.iload_n 2, 1) := by decide +kernel
theorem d_X_claim_20 : decode b_X_claim 20 = .ok (.aload_n 0, 1) := by decide +kernel
theorem d_X_claim_21 : decode b_X_claim 21 = .ok (.getfield 24, 3) := by decide +kernel
theorem d_X_claim_24 : decode b_X_claim 24 = .ok (.if_icmp .ge 20, 3) := by decide +kernel
theorem d_X_claim_27 : decode b_X_claim 27 = .ok (.aload_n 0, 1) := by decide +kernel
theorem d_X_claim_28 : decode b_X_claim 28 = .ok (.aload_n 0, 1) := by decide +kernel
theorem d_X_claim_29 : decode b_X_claim 29 = .ok (.getfield 17, 3) := by decide +kernel
theorem d_X_claim_32 : decode b_X_claim 32 = .ok (.iload_n 2, 1) := by decide +kernel
theorem d_X_claim_33 : decode b_X_claim 33 = .ok (.aaload, 1) := by decide +kernel
theorem d_X_claim_34 : decode b_X_claim 34 = .ok (.iload_n 1, 1) := by decide +kernel
theorem d_X_claim_35 : decode b_X_claim 35 = .ok (.invokevirtual 113, 3) := by decide +kernel
theorem d_X_claim_38 : decode b_X_claim 38 = .ok (.iinc 2 1, 3) := by decide +kernel
theorem d_X_claim_41 : decode b_X_claim 41 = .ok (.goto (-22), 3) := by decide +kernel
theorem d_X_claim_44 : decode b_X_claim 44 = .ok (.aload_n 0, 1) := by decide +kernel
theorem d_X_claim_45 : decode b_X_claim 45 = .ok (.getfield 33, 3) := by decide +kernel
theorem d_X_claim_48 : decode b_X_claim 48 = .ok (.getfield 117, 3) := by decide +kernel
theorem d_X_claim_51 : decode b_X_claim 51 = .ok (.ireturn, 1) := by decide +kernel
theorem d_X_claimIfDue_0 : decode b_X_claimIfDue 0 = .ok (.aload_n 0, 1) := by decide +kernel
theorem d_X_claimIfDue_1 : decode b_X_claimIfDue 1 = .ok (.getfield 11, 3) := by decide +kernel
theorem d_X_claimIfDue_4 : decode b_X_claimIfDue 4 = .ok (.aload_n 1, 1) := by decide +kernel
theorem d_X_claimIfDue_5 : decode b_X_claimIfDue 5 = .ok (.getfield 167, 3) := by decide +kernel
theorem d_X_claimIfDue_8 : decode b_X_claimIfDue 8 = .ok (.aaload, 1) := by decide +kernel
theorem d_X_claimIfDue_9 : decode b_X_claimIfDue 9 = .ok (.astore_n 3, 1) := by decide +kernel
theorem d_X_claimIfDue_10 : decode b_X_claimIfDue 10 = .ok (.aload_n 3, 1) := by decide +kernel
theorem d_X_claimIfDue_11 : decode b_X_claimIfDue 11 = .ok (.aload_n 1, 1) := by decide +kernel
theorem d_X_claimIfDue_12 : decode b_X_claimIfDue 12 = .ok (.iload_n 2, 1) := by decide +kernel
theorem d_X_claimIfDue_13 : decode b_X_claimIfDue 13 = .ok (.invokevirtual 213, 3) := by decide +kernel
