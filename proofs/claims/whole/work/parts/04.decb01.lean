theorem d_X_claimIfDue_16 : decode b_X_claimIfDue 16 = .ok (.ifCond .ne 4, 3) := by decide +kernel
theorem d_X_claimIfDue_19 : decode b_X_claimIfDue 19 = .ok (.return_, 1) := by decide +kernel
theorem d_X_claimIfDue_20 : decode b_X_claimIfDue 20 = .ok (.aload_n 1, 1) := by decide +kernel
theorem d_X_claimIfDue_21 : decode b_X_claimIfDue 21 = .ok (.getfield 217, 3) := by decide +kernel
theorem d_X_claimIfDue_24 : decode b_X_claimIfDue 24 = .ok (.aload_n 3, 1) := by decide +kernel
theorem d_X_claimIfDue_25 : decode b_X_claimIfDue 25 = .ok (.getfield 69, 3) := by decide +kernel
theorem d_X_claimIfDue_28 : decode b_X_claimIfDue 28 = .ok (.if_icmp .ge 26, 3) := by decide +kernel
theorem d_X_claimIfDue_31 : decode b_X_claimIfDue 31 = .ok (.aload_n 1, 1) := by decide +kernel
theorem d_X_claimIfDue_32 : decode b_X_claimIfDue 32 = .ok (.iload_n 2, 1) := by decide +kernel
theorem d_X_claimIfDue_33 : decode b_X_claimIfDue 33 = .ok (.invokevirtual 220, 3) := by decide +kernel
theorem d_X_claimIfDue_36 : decode b_X_claimIfDue 36 = .ok (.aload_n 0, 1) := by decide +kernel
theorem d_X_claimIfDue_37 : decode b_X_claimIfDue 37 = .ok (.getfield 33, 3) := by decide +kernel
theorem d_X_claimIfDue_40 : decode b_X_claimIfDue 40 = .ok (.aload_n 1, 1) := by decide +kernel
theorem d_X_claimIfDue_41 : decode b_X_claimIfDue 41 = .ok (.getfield 86, 3) := by decide +kernel
theorem d_X_claimIfDue_44 : decode b_X_claimIfDue 44 = .ok (.aload_n 1, 1) := by decide +kernel
theorem d_X_claimIfDue_45 : decode b_X_claimIfDue 45 = .ok (.getfield 217, 3) := by decide +kernel
theorem d_X_claimIfDue_48 : decode b_X_claimIfDue 48 = .ok (.invokevirtual 100, 3) := by decide +kernel
theorem d_X_claimIfDue_51 : decode b_X_claimIfDue 51 = .ok (.goto 20, 3) := by decide +kernel
theorem d_X_claimIfDue_54 : decode b_X_claimIfDue 54 = .ok (.aload_n 1, 1) := by decide +kernel
theorem d_X_claimIfDue_55 : decode b_X_claimIfDue 55 = .ok (.iconst 4, 1) := by decide +kernel
theorem d_X_claimIfDue_56 : decode b_X_claimIfDue 56 = .ok (.putfield 97, 3) := by decide +kernel
theorem d_X_claimIfDue_59 : decode b_X_claimIfDue 59 = .ok (.aload_n 0, 1) := by decide +kernel
theorem d_X_claimIfDue_60 : decode b_X_claimIfDue 60 = .ok (.getfield 37, 3) := by decide +kernel
theorem d_X_claimIfDue_63 : decode b_X_claimIfDue 63 = .ok (.iconst 3, 1) := by decide +kernel
theorem d_X_claimIfDue_64 : decode b_X_claimIfDue 64 = .ok (.aload_n 1, 1) := by decide +kernel
theorem d_X_claimIfDue_65 : decode b_X_claimIfDue 65 = .ok (.getfield 86, 3) := by decide +kernel
theorem d_X_claimIfDue_68 : decode b_X_claimIfDue 68 = .ok (.invokevirtual 100, 3) := by decide +kernel
theorem d_X_claimIfDue_71 : decode b_X_claimIfDue 71 = .ok (.return_, 1) := by decide +kernel
theorem d_X_list_0 : decode b_X_list 0 = .ok (.aload_n 0, 1) := by decide +kernel
theorem d_X_list_1 : decode b_X_list 1 = .ok (.iload_n 1, 1) := by decide +kernel
theorem d_X_list_2 : decode b_X_list 2 = .ok (.invokevirtual 89, 3) := by decide +kernel
theorem d_X_list_5 : decode b_X_list 5 = .ok (.astore 4, 2) := by decide +kernel
theorem d_X_list_7 : decode b_X_list 7 = .ok (.aload 4, 2) := by decide +kernel
theorem d_X_list_9 : decode b_X_list 9 = .ok (.ifnonnull 5, 3) := by decide +kernel
theorem d_X_list_12 : decode b_X_list 12 = .ok (.iconst (-1), 1) := by decide +kernel
theorem d_X_list_13 : decode b_X_list 13 = .ok (.ireturn, 1) := by decide +kernel
theorem d_X_list_14 : decode b_X_list 14 = .ok (.iload_n 2, 1) := by decide +kernel
theorem d_X_list_15 : decode b_X_list 15 = .ok (.iconst 0, 1) := by decide +kernel
theorem d_X_list_16 : decode b_X_list 16 = .ok (.sipush 999, 3) := by decide +kernel
theorem d_X_list_19 : decode b_X_list 19 = .ok (.invokestatic 59, 3) := by decide +kernel
theorem d_X_list_22 : decode b_X_list 22 = .ok (.ifCond .eq 13, 3) := by decide +kernel
theorem d_X_list_25 : decode b_X_list 25 = .ok (.iload_n 3, 1) := by decide +kernel
theorem d_X_list_26 : decode b_X_list 26 = .ok (.iconst 1, 1) := by decide +kernel
theorem d_X_list_27 : decode b_X_list 27 = .ok (.bipush 100, 2) := by decide +kernel
theorem d_X_list_29 : decode b_X_list 29 = .ok (.invokestatic 59, 3) := by decide +kernel
theorem d_X_list_32 : decode b_X_list 32 = .ok (.ifCond .ne 6, 3) := by decide +kernel
theorem d_X_list_35 : decode b_X_list 35 = .ok (.bipush (-2), 2) := by decide +kernel
theorem d_X_list_37 : decode b_X_list 37 = .ok (.ireturn, 1) := by decide +kernel
theorem d_X_list_38 : decode b_X_list 38 = .ok (.aload 4, 2) := by decide +kernel
theorem d_X_list_40 : decode b_X_list 40 = .ok (.getfield 97, 3) := by decide +kernel
theorem d_X_list_43 : decode b_X_list 43 = .ok (.iconst 3, 1) := by decide +kernel
theorem d_X_list_44 : decode b_X_list 44 = .ok (.if_icmp .ne 14, 3) := by decide +kernel
theorem d_X_list_47 : decode b_X_list 47 = .ok (.aload 4, 2) := by decide +kernel
theorem d_X_list_49 : decode b_X_list 49 = .ok (.getfield 134, 3) := by decide +kernel
theorem d_X_list_52 : decode b_X_list 52 = .ok (.invokevirtual 138, 3) := by decide +kernel
theorem d_X_list_55 : decode b_X_list 55 = .ok (.ifCond .eq 6, 3) := by decide +kernel
theorem d_X_list_58 : decode b_X_list 58 = .ok (.bipush (-3), 2) := by decide +kernel
theorem d_X_list_60 : decode b_X_list 60 = .ok (.ireturn, 1) := by decide +kernel
theorem d_X_list_61 : decode b_X_list 61 = .ok (.aload 4, 2) := by decide +kernel
theorem d_X_list_63 : decode b_X_list 63 = .ok (.getfield 134, 3) := by decide +kernel
theorem d_X_list_66 : decode b_X_list 66 = .ok (.invokevirtual 143, 3) := by decide +kernel
theorem d_X_list_69 : decode b_X_list 69 = .ok (.ifCond .eq 6, 3) := by decide +kernel
theorem d_X_list_72 : decode b_X_list 72 = .ok (.bipush (-4), 2) := by decide +kernel
theorem d_X_list_74 : decode b_X_list 74 = .ok (.ireturn, 1) := by decide +kernel
theorem d_X_list_75 : decode b_X_list 75 = .ok (.aload 4, 2) := by decide +kernel
theorem d_X_list_77 : decode b_X_list 77 = .ok (.getfield 134, 3) := by decide +kernel
theorem d_X_list_80 : decode b_X_list 80 = .ok (.iload_n 2, 1) := by decide +kernel
theorem d_X_list_81 : decode b_X_list 81 = .ok (.iload_n 3, 1) := by decide +kernel
theorem d_X_list_82 : decode b_X_list 82 = .ok (.invokevirtual 146, 3) := by decide +kernel
theorem d_X_list_85 : decode b_X_list 85 = .ok (.aload 4, 2) := by decide +kernel
theorem d_X_list_87 : decode b_X_list 87 = .ok (.getfield 134, 3) := by decide +kernel
theorem d_X_list_90 : decode b_X_list 90 = .ok (.getfield 147, 3) := by decide +kernel
theorem d_X_list_93 : decode b_X_list 93 = .ok (.ireturn, 1) := by decide +kernel
theorem d_X_route_0 : decode b_X_route 0 = .ok (.aload_n 0, 1) := by decide +kernel
theorem d_X_route_1 : decode b_X_route 1 = .ok (.iload_n 1, 1) := by decide +kernel
theorem d_X_route_2 : decode b_X_route 2 = .ok (.invokevirtual 89, 3) := by decide +kernel
theorem d_X_route_5 : decode b_X_route 5 = .ok (.astore_n 3, 1) := by decide +kernel
theorem d_X_route_6 : decode b_X_route 6 = .ok (.aload_n 3, 1) := by decide +kernel
theorem d_X_route_7 : decode b_X_route 7 = .ok (.ifnonnull 5, 3) := by decide +kernel
theorem d_X_route_10 : decode b_X_route 10 = .ok (.iconst (-1), 1) := by decide +kernel
theorem d_X_route_11 : decode b_X_route 11 = .ok (.ireturn, 1) := by decide +kernel
theorem d_X_route_12 : decode b_X_route 12 = .ok (.iload_n 2, 1) := by decide +kernel
theorem d_X_route_13 : decode b_X_route 13 = .ok (.invokestatic 72, 3) := by decide +kernel
theorem d_X_route_16 : decode b_X_route 16 = .ok (.ifCond .ne 6, 3) := by decide +kernel
theorem d_X_route_19 : decode b_X_route 19 = .ok (.bipush (-2), 2) := by decide +kernel
theorem d_X_route_21 : decode b_X_route 21 = .ok (.ireturn, 1) := by decide +kernel
theorem d_X_route_22 : decode b_X_route 22 = .ok (.aload_n 3, 1) := by decide +kernel
theorem d_X_route_23 : decode b_X_route 23 = .ok (.getfield 97, 3) := by decide +kernel
theorem d_X_route_26 : decode b_X_route 26 = .ok (.iconst 3, 1) := by decide +kernel
theorem d_X_route_27 : decode b_X_route 27 = .ok (.if_icmp .ne 23, 3) := by decide +kernel
theorem d_X_route_30 : decode b_X_route 30 = .ok (.aload_n 3, 1) := by decide +kernel
theorem d_X_route_31 : decode b_X_route 31 = .ok (.getfield 134, 3) := by decide +kernel
theorem d_X_route_34 : decode b_X_route 34 = .ok (.invokevirtual 138, 3) := by decide +kernel
theorem d_X_route_37 : decode b_X_route 37 = .ok (.ifCond .ne 13, 3) := by decide +kernel
theorem d_X_route_40 : decode b_X_route 40 = .ok (.aload_n 3, 1) := by decide +kernel
theorem d_X_route_41 : decode b_X_route 41 = .ok (.getfield 134, 3) := by decide +kernel
theorem d_X_route_44 : decode b_X_route 44 = .ok (.getfield 147, 3) := by decide +kernel
theorem d_X_route_47 : decode b_X_route 47 = .ok (.ifCond .ne 6, 3) := by decide +kernel
theorem d_X_route_50 : decode b_X_route 50 = .ok (.bipush (-3), 2) := by decide +kernel
theorem d_X_route_52 : decode b_X_route 52 = .ok (.ireturn, 1) := by decide +kernel
theorem d_X_route_53 : decode b_X_route 53 = .ok (.aload_n 3, 1) := by decide +kernel
theorem d_X_route_54 : decode b_X_route 54 = .ok (.getfield 134, 3) := by decide +kernel
theorem d_X_route_57 : decode b_X_route 57 = .ok (.iload_n 2, 1) := by decide +kernel
theorem d_X_route_58 : decode b_X_route 58 = .ok (.invokevirtual 148, 3) := by decide +kernel
theorem d_X_route_61 : decode b_X_route 61 = .ok (.aload_n 3, 1) := by decide +kernel
theorem d_X_route_62 : decode b_X_route 62 = .ok (.getfield 134, 3) := by decide +kernel
theorem d_X_route_65 : decode b_X_route 65 = .ok (.invokevirtual 151, 3) := by decide +kernel
theorem d_X_route_68 : decode b_X_route 68 = .ok (.ireturn, 1) := by decide +kernel
theorem d_X_returned_0 : decode b_X_returned 0 = .ok (.aload_n 0, 1) := by decide +kernel
theorem d_X_returned_1 : decode b_X_returned 1 = .ok (.iload_n 1, 1) := by decide +kernel
theorem d_X_returned_2 : decode b_X_returned 2 = .ok (.invokevirtual 89, 3) := by decide +kernel
theorem d_X_returned_5 : decode b_X_returned 5 = .ok (.astore_n 3, 1) := by decide +kernel
theorem d_X_returned_6 : decode b_X_returned 6 = .ok (.aload_n 3, 1) := by decide +kernel
theorem d_X_returned_7 : decode b_X_returned 7 = .ok (.ifnonnull 5, 3) := by decide +kernel
theorem d_X_returned_10 : decode b_X_returned 10 = .ok (.iconst (-1), 1) := by decide +kernel
theorem d_X_returned_11 : decode b_X_returned 11 = .ok (.ireturn, 1) := by decide +kernel
theorem d_X_returned_12 : decode b_X_returned 12 = .ok (.aload_n 3, 1) := by decide +kernel
theorem d_X_returned_13 : decode b_X_returned 13 = .ok (.getfield 134, 3) := by decide +kernel
theorem d_X_returned_16 : decode b_X_returned 16 = .ok (.astore 4, 2) := by decide +kernel
theorem d_X_returned_18 : decode b_X_returned 18 = .ok (.iload_n 2, 1) := by decide +kernel
theorem d_X_returned_19 : decode b_X_returned 19 = .ok (.invokestatic 72, 3) := by decide +kernel
theorem d_X_returned_22 : decode b_X_returned 22 = .ok (.ifCond .eq 20, 3) := by decide +kernel
theorem d_X_returned_25 : decode b_X_returned 25 = .ok (.aload 4, 2) := by decide +kernel
theorem d_X_returned_27 : decode b_X_returned 27 = .ok (.invokevirtual 155, 3) := by decide +kernel
theorem d_X_returned_30 : decode b_X_returned 30 = .ok (.ifCond .eq 15, 3) := by decide +kernel
theorem d_X_returned_33 : decode b_X_returned 33 = .ok (.iload_n 2, 1) := by decide +kernel
theorem d_X_returned_34 : decode b_X_returned 34 = .ok (.aload 4, 2) := by decide +kernel
theorem d_X_returned_36 : decode b_X_returned 36 = .ok (.getfield 158, 3) := by decide +kernel
theorem d_X_returned_39 : decode b_X_returned 39 = .ok (.if_icmp .ge 6, 3) := by decide +kernel
theorem d_X_returned_42 : decode b_X_returned 42 = .ok (.bipush (-2), 2) := by decide +kernel
theorem d_X_returned_44 : decode b_X_returned 44 = .ok (.ireturn, 1) := by decide +kernel
theorem d_X_returned_45 : decode b_X_returned 45 = .ok (.aload 4, 2) := by decide +kernel
theorem d_X_returned_47 : decode b_X_returned 47 = .ok (.invokevirtual 155, 3) := by decide +kernel
theorem d_X_returned_50 : decode b_X_returned 50 = .ok (.ifCond .ne 6, 3) := by decide +kernel
theorem d_X_returned_53 : decode b_X_returned 53 = .ok (.bipush (-3), 2) := by decide +kernel
theorem d_X_returned_55 : decode b_X_returned 55 = .ok (.ireturn, 1) := by decide +kernel
theorem d_X_returned_56 : decode b_X_returned 56 = .ok (.aload 4, 2) := by decide +kernel
theorem d_X_returned_58 : decode b_X_returned 58 = .ok (.iload_n 2, 1) := by decide +kernel
theorem d_X_returned_59 : decode b_X_returned 59 = .ok (.invokevirtual 161, 3) := by decide +kernel
theorem d_X_returned_62 : decode b_X_returned 62 = .ok (.ifCond .eq 15, 3) := by decide +kernel
theorem d_X_returned_65 : decode b_X_returned 65 = .ok (.aload_n 0, 1) := by decide +kernel
theorem d_X_returned_66 : decode b_X_returned 66 = .ok (.getfield 37, 3) := by decide +kernel
theorem d_X_returned_69 : decode b_X_returned 69 = .ok (.iconst 4, 1) := by decide +kernel
theorem d_X_returned_70 : decode b_X_returned 70 = .ok (.aload_n 3, 1) := by decide +kernel
theorem d_X_returned_71 : decode b_X_returned 71 = .ok (.getfield 86, 3) := by decide +kernel
theorem d_X_returned_74 : decode b_X_returned 74 = .ok (.invokevirtual 100, 3) := by decide +kernel
theorem d_X_returned_77 : decode b_X_returned 77 = .ok (.aload 4, 2) := by decide +kernel
theorem d_X_returned_79 : decode b_X_returned 79 = .ok (.iload_n 2, 1) := by decide +kernel
theorem d_X_returned_80 : decode b_X_returned 80 = .ok (.invokevirtual 148, 3) := by decide +kernel
theorem d_X_returned_83 : decode b_X_returned 83 = .ok (.aload 4, 2) := by decide +kernel
theorem d_X_returned_85 : decode b_X_returned 85 = .ok (.invokevirtual 155, 3) := by decide +kernel
theorem d_X_returned_88 : decode b_X_returned 88 = .ok (.ifCond .eq 11, 3) := by decide +kernel
theorem d_X_returned_91 : decode b_X_returned 91 = .ok (.aload 4, 2) := by decide +kernel
theorem d_X_returned_93 : decode b_X_returned 93 = .ok (.invokevirtual 151, 3) := by decide +kernel
theorem d_X_returned_96 : decode b_X_returned 96 = .ok (.goto 6, 3) := by decide +kernel
theorem d_X_returned_99 : decode b_X_returned 99 = .ok (.sipush 1000, 3) := by decide +kernel
theorem d_X_returned_102 : decode b_X_returned 102 = .ok (.ireturn, 1) := by decide +kernel
theorem d_X_replace_0 : decode b_X_replace 0 = .ok (.aload_n 0, 1) := by decide +kernel
theorem d_X_replace_1 : decode b_X_replace 1 = .ok (.iload_n 1, 1) := by decide +kernel
theorem d_X_replace_2 : decode b_X_replace 2 = .ok (.invokevirtual 89, 3) := by decide +kernel
theorem d_X_replace_5 : decode b_X_replace 5 = .ok (.astore_n 3, 1) := by decide +kernel
theorem d_X_replace_6 : decode b_X_replace 6 = .ok (.aload_n 3, 1) := by decide +kernel
theorem d_X_replace_7 : decode b_X_replace 7 = .ok (.ifnonnull 5, 3) := by decide +kernel
theorem d_X_replace_10 : decode b_X_replace 10 = .ok (.iconst (-1), 1) := by decide +kernel
theorem d_X_replace_11 : decode b_X_replace 11 = .ok (.ireturn, 1) := by decide +kernel
theorem d_X_replace_12 : decode b_X_replace 12 = .ok (.iload_n 2, 1) := by decide +kernel
theorem d_X_replace_13 : decode b_X_replace 13 = .ok (.invokestatic 72, 3) := by decide +kernel
theorem d_X_replace_16 : decode b_X_replace 16 = .ok (.ifCond .ne 6, 3) := by decide +kernel
theorem d_X_replace_19 : decode b_X_replace 19 = .ok (.bipush (-2), 2) := by decide +kernel
theorem d_X_replace_21 : decode b_X_replace 21 = .ok (.ireturn, 1) := by decide +kernel
theorem d_X_replace_22 : decode b_X_replace 22 = .ok (.aload_n 3, 1) := by decide +kernel
theorem d_X_replace_23 : decode b_X_replace 23 = .ok (.invokevirtual 164, 3) := by decide +kernel
theorem d_X_replace_26 : decode b_X_replace 26 = .ok (.ifCond .ne 6, 3) := by decide +kernel
theorem d_X_replace_29 : decode b_X_replace 29 = .ok (.bipush (-3), 2) := by decide +kernel
theorem d_X_replace_31 : decode b_X_replace 31 = .ok (.ireturn, 1) := by decide +kernel
theorem d_X_replace_32 : decode b_X_replace 32 = .ok (.aload_n 0, 1) := by decide +kernel
theorem d_X_replace_33 : decode b_X_replace 33 = .ok (.getfield 24, 3) := by decide +kernel
theorem d_X_replace_36 : decode b_X_replace 36 = .ok (.sipush 200, 3) := by decide +kernel
theorem d_X_replace_39 : decode b_X_replace 39 = .ok (.if_icmp .lt 6, 3) := by decide +kernel
theorem d_X_replace_42 : decode b_X_replace 42 = .ok (.bipush (-4), 2) := by decide +kernel
theorem d_X_replace_44 : decode b_X_replace 44 = .ok (.ireturn, 1) := by decide +kernel
theorem d_X_replace_45 : decode b_X_replace 45 = .ok (.new 15, 3) := by decide +kernel
theorem d_X_replace_48 : decode b_X_replace 48 = .ok (.dup, 1) := by decide +kernel
theorem d_X_replace_49 : decode b_X_replace 49 = .ok (.aload_n 0, 1) := by decide +kernel
theorem d_X_replace_50 : decode b_X_replace 50 = .ok (.getfield 24, 3) := by decide +kernel
theorem d_X_replace_53 : decode b_X_replace 53 = .ok (.aload_n 3, 1) := by decide +kernel
theorem d_X_replace_54 : decode b_X_replace 54 = .ok (.getfield 167, 3) := by decide +kernel
theorem d_X_replace_57 : decode b_X_replace 57 = .ok (.aload_n 3, 1) := by decide +kernel
theorem d_X_replace_58 : decode b_X_replace 58 = .ok (.getfield 170, 3) := by decide +kernel
theorem d_X_replace_61 : decode b_X_replace 61 = .ok (.aload_n 3, 1) := by decide +kernel
theorem d_X_replace_62 : decode b_X_replace 62 = .ok (.getfield 104, 3) := by decide +kernel
theorem d_X_replace_65 : decode b_X_replace 65 = .ok (.iconst 1, 1) := by decide +kernel
theorem d_X_replace_66 : decode b_X_replace 66 = .ok (.invokespecial 79, 3) := by decide +kernel
theorem d_X_replace_69 : decode b_X_replace 69 = .ok (.astore 4, 2) := by decide +kernel
theorem d_X_replace_71 : decode b_X_replace 71 = .ok (.aload 4, 2) := by decide +kernel
theorem d_X_replace_73 : decode b_X_replace 73 = .ok (.iconst 1, 1) := by decide +kernel
theorem d_X_replace_74 : decode b_X_replace 74 = .ok (.iload_n 2, 1) := by decide +kernel
theorem d_X_replace_75 : decode b_X_replace 75 = .ok (.invokevirtual 107, 3) := by decide +kernel
theorem d_X_replace_78 : decode b_X_replace 78 = .ok (.aload_n 0, 1) := by decide +kernel
theorem d_X_replace_79 : decode b_X_replace 79 = .ok (.aload 4, 2) := by decide +kernel
theorem d_X_replace_81 : decode b_X_replace 81 = .ok (.invokevirtual 82, 3) := by decide +kernel
theorem d_X_replace_84 : decode b_X_replace 84 = .ok (.aload_n 3, 1) := by decide +kernel
theorem d_X_replace_85 : decode b_X_replace 85 = .ok (.bipush 6, 2) := by decide +kernel
theorem d_X_replace_87 : decode b_X_replace 87 = .ok (.putfield 97, 3) := by decide +kernel
theorem d_X_replace_90 : decode b_X_replace 90 = .ok (.aload_n 3, 1) := by decide +kernel
theorem d_X_replace_91 : decode b_X_replace 91 = .ok (.aload 4, 2) := by decide +kernel
theorem d_X_replace_93 : decode b_X_replace 93 = .ok (.getfield 86, 3) := by decide +kernel
theorem d_X_replace_96 : decode b_X_replace 96 = .ok (.putfield 173, 3) := by decide +kernel
theorem d_X_replace_99 : decode b_X_replace 99 = .ok (.aload 4, 2) := by decide +kernel
theorem d_X_replace_101 : decode b_X_replace 101 = .ok (.getfield 86, 3) := by decide +kernel
theorem d_X_replace_104 : decode b_X_replace 104 = .ok (.ireturn, 1) := by decide +kernel
theorem d_X_bind_0 : decode b_X_bind 0 = .ok (.iload_n 1, 1) := by decide +kernel
theorem d_X_bind_1 : decode b_X_bind 1 = .ok (.invokestatic 55, 3) := by decide +kernel
theorem d_X_bind_4 : decode b_X_bind 4 = .ok (.ifCond .ne 5, 3) := by decide +kernel
theorem d_X_bind_7 : decode b_X_bind 7 = .ok (.iconst (-1), 1) := by decide +kernel
theorem d_X_bind_8 : decode b_X_bind 8 = .ok (.ireturn, 1) := by decide +kernel
theorem d_X_bind_9 : decode b_X_bind 9 = .ok (.iload_n 2, 1) := by decide +kernel
theorem d_X_bind_10 : decode b_X_bind 10 = .ok (.iconst 1, 1) := by decide +kernel
theorem d_X_bind_11 : decode b_X_bind 11 = .ok (.bipush 50, 2) := by decide +kernel
theorem d_X_bind_13 : decode b_X_bind 13 = .ok (.invokestatic 59, 3) := by decide +kernel
theorem d_X_bind_16 : decode b_X_bind 16 = .ok (.ifCond .ne 6, 3) := by decide +kernel
theorem d_X_bind_19 : decode b_X_bind 19 = .ok (.bipush (-2), 2) := by decide +kernel
theorem d_X_bind_21 : decode b_X_bind 21 = .ok (.ireturn, 1) := by decide +kernel
theorem d_X_bind_22 : decode b_X_bind 22 = .ok (.aload_n 0, 1) := by decide +kernel
theorem d_X_bind_23 : decode b_X_bind 23 = .ok (.iload_n 1, 1) := by decide +kernel
theorem d_X_bind_24 : decode b_X_bind 24 = .ok (.iload_n 2, 1) := by decide +kernel
theorem d_X_bind_25 : decode b_X_bind 25 = .ok (.invokevirtual 176, 3) := by decide +kernel
theorem d_X_bind_28 : decode b_X_bind 28 = .ok (.ifCond .ne 6, 3) := by decide +kernel
theorem d_X_bind_31 : decode b_X_bind 31 = .ok (.bipush (-3), 2) := by decide +kernel
theorem d_X_bind_33 : decode b_X_bind 33 = .ok (.ireturn, 1) := by decide +kernel
theorem d_X_bind_34 : decode b_X_bind 34 = .ok (.aload_n 0, 1) := by decide +kernel
theorem d_X_bind_35 : decode b_X_bind 35 = .ok (.getfield 43, 3) := by decide +kernel
theorem d_X_bind_38 : decode b_X_bind 38 = .ok (.invokevirtual 179, 3) := by decide +kernel
theorem d_X_bind_41 : decode b_X_bind 41 = .ok (.ifCond .eq 6, 3) := by decide +kernel
theorem d_X_bind_44 : decode b_X_bind 44 = .ok (.bipush (-4), 2) := by decide +kernel
theorem d_X_bind_46 : decode b_X_bind 46 = .ok (.ireturn, 1) := by decide +kernel
theorem d_X_bind_47 : decode b_X_bind 47 = .ok (.aload_n 0, 1) := by decide +kernel
theorem d_X_bind_48 : decode b_X_bind 48 = .ok (.iload_n 1, 1) := by decide +kernel
theorem d_X_bind_49 : decode b_X_bind 49 = .ok (.iload_n 2, 1) := by decide +kernel
theorem d_X_bind_50 : decode b_X_bind 50 = .ok (.invokevirtual 180, 3) := by decide +kernel
theorem d_X_bind_53 : decode b_X_bind 53 = .ok (.ireturn, 1) := by decide +kernel
theorem d_X_isBindable_0 : decode b_X_isBindable 0 = .ok (.iconst 0, 1) := by decide +kernel
theorem d_X_isBindable_1 : decode b_X_isBindable 1 = .ok (.istore_n 3, 1) := by decide +kernel
theorem d_X_isBindable_2 : decode b_X_isBindable 2 = .ok (.iconst 0, 1) := by decide +kernel
theorem d_X_isBindable_3 : decode b_X_isBindable 3 = .ok (.istore 4, 2) := by decide +kernel
theorem d_X_isBindable_5 : decode b_X_isBindable 5 = .ok (.iload 4, 2) := by decide +kernel
theorem d_X_isBindable_7 : decode b_X_isBindable 7 = .ok (.aload_n 0, 1) := by decide +kernel
theorem d_X_isBindable_8 : decode b_X_isBindable 8 = .ok (.getfield 24, 3) := by decide +kernel
theorem d_X_isBindable_11 : decode b_X_isBindable 11 = .ok (.if_icmp .ge 57, 3) := by decide +kernel
theorem d_X_isBindable_14 : decode b_X_isBindable 14 = .ok (.iload_n 3, 1) := by decide +kernel
theorem d_X_isBindable_15 : decode b_X_isBindable 15 = .ok (.iload_n 2, 1) := by decide +kernel
theorem d_X_isBindable_16 : decode b_X_isBindable 16 = .ok (.if_icmp .ge 52, 3) := by decide +kernel
theorem d_X_isBindable_19 : decode b_X_isBindable 19 = .ok (.aload_n 0, 1) := by decide +kernel
theorem d_X_isBindable_20 : decode b_X_isBindable 20 = .ok (.getfield 21, 3) := by decide +kernel
theorem d_X_isBindable_23 : decode b_X_isBindable 23 = .ok (.iload 4, 2) := by decide +kernel
theorem d_X_isBindable_25 : decode b_X_isBindable 25 = .ok (.aaload, 1) := by decide +kernel
theorem d_X_isBindable_26 : decode b_X_isBindable 26 = .ok (.astore 5, 2) := by decide +kernel
theorem d_X_isBindable_28 : decode b_X_isBindable 28 = .ok (.aload 5, 2) := by decide +kernel
theorem d_X_isBindable_30 : decode b_X_isBindable 30 = .ok (.getfield 167, 3) := by decide +kernel
theorem d_X_isBindable_33 : decode b_X_isBindable 33 = .ok (.iload_n 1, 1) := by decide +kernel
theorem d_X_isBindable_34 : decode b_X_isBindable 34 = .ok (.if_icmp .ne 28, 3) := by decide +kernel
theorem d_X_isBindable_37 : decode b_X_isBindable 37 = .ok (.aload 5, 2) := by decide +kernel
theorem d_X_isBindable_39 : decode b_X_isBindable 39 = .ok (.getfield 97, 3) := by decide +kernel
theorem d_X_isBindable_42 : decode b_X_isBindable 42 = .ok (.iconst 3, 1) := by decide +kernel
theorem d_X_isBindable_43 : decode b_X_isBindable 43 = .ok (.if_icmp .ne 19, 3) := by decide +kernel
theorem d_X_isBindable_46 : decode b_X_isBindable 46 = .ok (.aload 5, 2) := by decide +kernel
theorem d_X_isBindable_48 : decode b_X_isBindable 48 = .ok (.getfield 134, 3) := by decide +kernel
theorem d_X_isBindable_51 : decode b_X_isBindable 51 = .ok (.invokevirtual 155, 3) := by decide +kernel
theorem d_X_isBindable_54 : decode b_X_isBindable 54 = .ok (.ifCond .eq 5, 3) := by decide +kernel
theorem d_X_isBindable_57 : decode b_X_isBindable 57 = .ok (.iconst 0, 1) := by decide +kernel
theorem d_X_isBindable_58 : decode b_X_isBindable 58 = .ok (.ireturn, 1) := by decide +kernel
theorem d_X_isBindable_59 : decode b_X_isBindable 59 = .ok (.iinc 3 1, 3) := by decide +kernel
theorem d_X_isBindable_62 : decode b_X_isBindable 62 = .ok (.iinc 4 1, 3) := by decide +kernel
theorem d_X_isBindable_65 : decode b_X_isBindable 65 = .ok (.goto (-60), 3) := by decide +kernel
theorem d_X_isBindable_68 : decode b_X_isBindable 68 = .ok (.iload_n 3, 1) := by decide +kernel
theorem d_X_isBindable_69 : decode b_X_isBindable 69 = .ok (.iload_n 2, 1) := by decide +kernel
theorem d_X_isBindable_70 : decode b_X_isBindable 70 = .ok (.if_icmp .ne 7, 3) := by decide +kernel
theorem d_X_isBindable_73 : decode b_X_isBindable 73 = .ok (.iconst 1, 1) := by decide +kernel
theorem d_X_isBindable_74 : decode b_X_isBindable 74 = .ok (.goto 4, 3) := by decide +kernel
theorem d_X_isBindable_77 : decode b_X_isBindable 77 = .ok (.iconst 0, 1) := by decide +kernel
theorem d_X_isBindable_78 : decode b_X_isBindable 78 = .ok (.ireturn, 1) := by decide +kernel
theorem d_X_bindNext_0 : decode b_X_bindNext 0 = .ok (.aload_n 0, 1) := by decide +kernel
theorem d_X_bindNext_1 : decode b_X_bindNext 1 = .ok (.getfield 43, 3) := by decide +kernel
theorem d_X_bindNext_4 : decode b_X_bindNext 4 = .ok (.invokevirtual 223, 3) := by decide +kernel
theorem d_X_bindNext_7 : decode b_X_bindNext 7 = .ok (.istore_n 3, 1) := by decide +kernel
theorem d_X_bindNext_8 : decode b_X_bindNext 8 = .ok (.iconst 0, 1) := by decide +kernel
theorem d_X_bindNext_9 : decode b_X_bindNext 9 = .ok (.istore 4, 2) := by decide +kernel
theorem d_X_bindNext_11 : decode b_X_bindNext 11 = .ok (.iconst 0, 1) := by decide +kernel
theorem d_X_bindNext_12 : decode b_X_bindNext 12 = .ok (.istore 5, 2) := by decide +kernel
theorem d_X_bindNext_14 : decode b_X_bindNext 14 = .ok (.iload 5, 2) := by decide +kernel
theorem d_X_bindNext_16 : decode b_X_bindNext 16 = .ok (.aload_n 0, 1) := by decide +kernel
theorem d_X_bindNext_17 : decode b_X_bindNext 17 = .ok (.getfield 24, 3) := by decide +kernel
theorem d_X_bindNext_20 : decode b_X_bindNext 20 = .ok (.if_icmp .ge 69, 3) := by decide +kernel
theorem d_X_bindNext_23 : decode b_X_bindNext 23 = .ok (.iload 4, 2) := by decide +kernel
theorem d_X_bindNext_25 : decode b_X_bindNext 25 = .ok (.iload_n 2, 1) := by decide +kernel
theorem d_X_bindNext_26 : decode b_X_bindNext 26 = .ok (.if_icmp .ge 63, 3) := by decide +kernel
theorem d_X_bindNext_29 : decode b_X_bindNext 29 = .ok (.aload_n 0, 1) := by decide +kernel
theorem d_X_bindNext_30 : decode b_X_bindNext 30 = .ok (.getfield 21, 3) := by decide +kernel
theorem d_X_bindNext_33 : decode b_X_bindNext 33 = .ok (.iload 5, 2) := by decide +kernel
theorem d_X_bindNext_35 : decode b_X_bindNext 35 = .ok (.aaload, 1) := by decide +kernel
theorem d_X_bindNext_36 : decode b_X_bindNext 36 = .ok (.astore 6, 2) := by decide +kernel
theorem d_X_bindNext_38 : decode b_X_bindNext 38 = .ok (.aload 6, 2) := by decide +kernel
theorem d_X_bindNext_40 : decode b_X_bindNext 40 = .ok (.getfield 167, 3) := by decide +kernel
theorem d_X_bindNext_43 : decode b_X_bindNext 43 = .ok (.iload_n 1, 1) := by decide +kernel
theorem d_X_bindNext_44 : decode b_X_bindNext 44 = .ok (.if_icmp .ne 39, 3) := by decide +kernel
theorem d_X_bindNext_47 : decode b_X_bindNext 47 = .ok (.aload 6, 2) := by decide +kernel
theorem d_X_bindNext_49 : decode b_X_bindNext 49 = .ok (.getfield 97, 3) := by decide +kernel
theorem d_X_bindNext_52 : decode b_X_bindNext 52 = .ok (.iconst 3, 1) := by decide +kernel
theorem d_X_bindNext_53 : decode b_X_bindNext 53 = .ok (.if_icmp .ne 30, 3) := by decide +kernel
theorem d_X_bindNext_56 : decode b_X_bindNext 56 = .ok (.aload 6, 2) := by decide +kernel
theorem d_X_bindNext_58 : decode b_X_bindNext 58 = .ok (.iconst 5, 1) := by decide +kernel
theorem d_X_bindNext_59 : decode b_X_bindNext 59 = .ok (.putfield 97, 3) := by decide +kernel
theorem d_X_bindNext_62 : decode b_X_bindNext 62 = .ok (.aload 6, 2) := by decide +kernel
theorem d_X_bindNext_64 : decode b_X_bindNext 64 = .ok (.iload_n 3, 1) := by decide +kernel
theorem d_X_bindNext_65 : decode b_X_bindNext 65 = .ok (.putfield 226, 3) := by decide +kernel
theorem d_X_bindNext_68 : decode b_X_bindNext 68 = .ok (.aload_n 0, 1) := by decide +kernel
theorem d_X_bindNext_69 : decode b_X_bindNext 69 = .ok (.getfield 43, 3) := by decide +kernel
theorem d_X_bindNext_72 : decode b_X_bindNext 72 = .ok (.aload 6, 2) := by decide +kernel
theorem d_X_bindNext_74 : decode b_X_bindNext 74 = .ok (.getfield 86, 3) := by decide +kernel
theorem d_X_bindNext_77 : decode b_X_bindNext 77 = .ok (.invokevirtual 229, 3) := by decide +kernel
theorem d_X_bindNext_80 : decode b_X_bindNext 80 = .ok (.iinc 4 1, 3) := by decide +kernel
theorem d_X_bindNext_83 : decode b_X_bindNext 83 = .ok (.iinc 5 1, 3) := by decide +kernel
theorem d_X_bindNext_86 : decode b_X_bindNext 86 = .ok (.goto (-72), 3) := by decide +kernel
theorem d_X_bindNext_89 : decode b_X_bindNext 89 = .ok (.iload_n 3, 1) := by decide +kernel
theorem d_X_bindNext_90 : decode b_X_bindNext 90 = .ok (.ireturn, 1) := by decide +kernel
theorem d_X_statement_0 : decode b_X_statement 0 = .ok (.iload_n 1, 1) := by decide +kernel
theorem d_X_statement_1 : decode b_X_statement 1 = .ok (.invokestatic 55, 3) := by decide +kernel
theorem d_X_statement_4 : decode b_X_statement 4 = .ok (.ifCond .ne 5, 3) := by decide +kernel
theorem d_X_statement_7 : decode b_X_statement 7 = .ok (.iconst (-1), 1) := by decide +kernel
theorem d_X_statement_8 : decode b_X_statement 8 = .ok (.ireturn, 1) := by decide +kernel
theorem d_X_statement_9 : decode b_X_statement 9 = .ok (.aload_n 0, 1) := by decide +kernel
theorem d_X_statement_10 : decode b_X_statement 10 = .ok (.getfield 50, 3) := by decide +kernel
theorem d_X_statement_13 : decode b_X_statement 13 = .ok (.invokevirtual 189, 3) := by decide +kernel
theorem d_X_statement_16 : decode b_X_statement 16 = .ok (.iconst 1, 1) := by decide +kernel
theorem d_X_statement_17 : decode b_X_statement 17 = .ok (.istore_n 2, 1) := by decide +kernel
theorem d_X_statement_18 : decode b_X_statement 18 = .ok (.iconst 0, 1) := by decide +kernel
theorem d_X_statement_19 : decode b_X_statement 19 = .ok (.istore_n 3, 1) := by decide +kernel
theorem d_X_statement_20 : decode b_X_statement 20 = .ok (.iload_n 3, 1) := by decide +kernel
theorem d_X_statement_21 : decode b_X_statement 21 = .ok (.aload_n 0, 1) := by decide +kernel
theorem d_X_statement_22 : decode b_X_statement 22 = .ok (.getfield 24, 3) := by decide +kernel
theorem d_X_statement_25 : decode b_X_statement 25 = .ok (.if_icmp .ge 74, 3) := by decide +kernel
theorem d_X_statement_28 : decode b_X_statement 28 = .ok (.aload_n 0, 1) := by decide +kernel
theorem d_X_statement_29 : decode b_X_statement 29 = .ok (.getfield 21, 3) := by decide +kernel
theorem d_X_statement_32 : decode b_X_statement 32 = .ok (.iload_n 3, 1) := by decide +kernel
theorem d_X_statement_33 : decode b_X_statement 33 = .ok (.aaload, 1) := by decide +kernel
theorem d_X_statement_34 : decode b_X_statement 34 = .ok (.astore 4, 2) := by decide +kernel
theorem d_X_statement_36 : decode b_X_statement 36 = .ok (.aload 4, 2) := by decide +kernel
theorem d_X_statement_38 : decode b_X_statement 38 = .ok (.getfield 167, 3) := by decide +kernel
theorem d_X_statement_41 : decode b_X_statement 41 = .ok (.iload_n 1, 1) := by decide +kernel
theorem d_X_statement_42 : decode b_X_statement 42 = .ok (.if_icmp .ne 51, 3) := by decide +kernel
