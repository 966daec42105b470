theorem d_V_isFull_14 : decode b_V_isFull 14 = .ok (.ireturn, 1) := by decide +kernel
theorem d_V_open_0 : decode b_V_open 0 = .ok (.aload_n 0, 1) := by decide +kernel
theorem d_V_open_1 : decode b_V_open 1 = .ok (.invokevirtual 22, 3) := by decide +kernel
theorem d_V_open_4 : decode b_V_open 4 = .ok (.ifCond .eq 5, 3) := by decide +kernel
theorem d_V_open_7 : decode b_V_open 7 = .ok (.iconst (-1), 1) := by decide +kernel
theorem d_V_open_8 : decode b_V_open 8 = .ok (.ireturn, 1) := by decide +kernel
theorem d_V_open_9 : decode b_V_open 9 = .ok (.aload_n 0, 1) := by decide +kernel
theorem d_V_open_10 : decode b_V_open 10 = .ok (.getfield 15, 3) := by decide +kernel
theorem d_V_open_13 : decode b_V_open 13 = .ok (.aload_n 0, 1) := by decide +kernel
theorem d_V_open_14 : decode b_V_open 14 = .ok (.getfield 18, 3) := by decide +kernel
theorem d_V_open_17 : decode b_V_open 17 = .ok (.iconst 1, 1) := by decide +kernel
theorem d_V_open_18 : decode b_V_open 18 = .ok (.iadd, 1) := by decide +kernel
theorem d_V_open_19 : decode b_V_open 19 = .ok (.aload_n 0, 1) := by decide +kernel
theorem d_V_open_20 : decode b_V_open 20 = .ok (.getfield 15, 3) := by decide +kernel
theorem d_V_open_23 : decode b_V_open 23 = .ok (.aload_n 0, 1) := by decide +kernel
theorem d_V_open_24 : decode b_V_open 24 = .ok (.getfield 18, 3) := by decide +kernel
theorem d_V_open_27 : decode b_V_open 27 = .ok (.iaload, 1) := by decide +kernel
theorem d_V_open_28 : decode b_V_open 28 = .ok (.iastore, 1) := by decide +kernel
theorem d_V_open_29 : decode b_V_open 29 = .ok (.aload_n 0, 1) := by decide +kernel
theorem d_V_open_30 : decode b_V_open 30 = .ok (.dup, 1) := by decide +kernel
theorem d_V_open_31 : decode b_V_open 31 = .ok (.getfield 18, 3) := by decide +kernel
theorem d_V_open_34 : decode b_V_open 34 = .ok (.iconst 1, 1) := by decide +kernel
theorem d_V_open_35 : decode b_V_open 35 = .ok (.iadd, 1) := by decide +kernel
theorem d_V_open_36 : decode b_V_open 36 = .ok (.putfield 18, 3) := by decide +kernel
theorem d_V_open_39 : decode b_V_open 39 = .ok (.aload_n 0, 1) := by decide +kernel
theorem d_V_open_40 : decode b_V_open 40 = .ok (.getfield 18, 3) := by decide +kernel
theorem d_V_open_43 : decode b_V_open 43 = .ok (.iconst 1, 1) := by decide +kernel
theorem d_V_open_44 : decode b_V_open 44 = .ok (.isub, 1) := by decide +kernel
theorem d_V_open_45 : decode b_V_open 45 = .ok (.ireturn, 1) := by decide +kernel
theorem d_V_add_0 : decode b_V_add 0 = .ok (.aload_n 0, 1) := by decide +kernel
theorem d_V_add_1 : decode b_V_add 1 = .ok (.getfield 18, 3) := by decide +kernel
theorem d_V_add_4 : decode b_V_add 4 = .ok (.iconst 1, 1) := by decide +kernel
theorem d_V_add_5 : decode b_V_add 5 = .ok (.bipush 40, 2) := by decide +kernel
theorem d_V_add_7 : decode b_V_add 7 = .ok (.invokestatic 26, 3) := by decide +kernel
theorem d_V_add_10 : decode b_V_add 10 = .ok (.ifCond .eq 50, 3) := by decide +kernel
theorem d_V_add_13 : decode b_V_add 13 = .ok (.aload_n 0, 1) := by decide +kernel
theorem d_V_add_14 : decode b_V_add 14 = .ok (.getfield 15, 3) := by decide +kernel
theorem d_V_add_17 : decode b_V_add 17 = .ok (.aload_n 0, 1) := by decide +kernel
theorem d_V_add_18 : decode b_V_add 18 = .ok (.getfield 18, 3) := by decide +kernel
theorem d_V_add_21 : decode b_V_add 21 = .ok (.iaload, 1) := by decide +kernel
theorem d_V_add_22 : decode b_V_add 22 = .ok (.iconst 0, 1) := by decide +kernel
theorem d_V_add_23 : decode b_V_add 23 = .ok (.sipush 199, 3) := by decide +kernel
theorem d_V_add_26 : decode b_V_add 26 = .ok (.invokestatic 26, 3) := by decide +kernel
theorem d_V_add_29 : decode b_V_add 29 = .ok (.ifCond .eq 31, 3) := by decide +kernel
theorem d_V_add_32 : decode b_V_add 32 = .ok (.aload_n 0, 1) := by decide +kernel
theorem d_V_add_33 : decode b_V_add 33 = .ok (.getfield 9, 3) := by decide +kernel
theorem d_V_add_36 : decode b_V_add 36 = .ok (.aload_n 0, 1) := by decide +kernel
theorem d_V_add_37 : decode b_V_add 37 = .ok (.getfield 15, 3) := by decide +kernel
theorem d_V_add_40 : decode b_V_add 40 = .ok (.aload_n 0, 1) := by decide +kernel
theorem d_V_add_41 : decode b_V_add 41 = .ok (.getfield 18, 3) := by decide +kernel
theorem d_V_add_44 : decode b_V_add 44 = .ok (.iaload, 1) := by decide +kernel
theorem d_V_add_45 : decode b_V_add 45 = .ok (.iload_n 1, 1) := by decide +kernel
theorem d_V_add_46 : decode b_V_add 46 = .ok (.iastore, 1) := by decide +kernel
theorem d_V_add_47 : decode b_V_add 47 = .ok (.aload_n 0, 1) := by decide +kernel
theorem d_V_add_48 : decode b_V_add 48 = .ok (.getfield 15, 3) := by decide +kernel
theorem d_V_add_51 : decode b_V_add 51 = .ok (.aload_n 0, 1) := by decide +kernel
theorem d_V_add_52 : decode b_V_add 52 = .ok (.getfield 18, 3) := by decide +kernel
theorem d_V_add_55 : decode b_V_add 55 = .ok (.dup2, 1) := by decide +kernel
theorem d_V_add_56 : decode b_V_add 56 = .ok (.iaload, 1) := by decide +kernel
theorem d_V_add_57 : decode b_V_add 57 = .ok (.iconst 1, 1) := by decide +kernel
theorem d_V_add_58 : decode b_V_add 58 = .ok (.iadd, 1) := by decide +kernel
theorem d_V_add_59 : decode b_V_add 59 = .ok (.iastore, 1) := by decide +kernel
theorem d_V_add_60 : decode b_V_add 60 = .ok (.return_, 1) := by decide +kernel
theorem d_S_clear_0 : decode b_S_clear 0 = .ok (.aload_n 0, 1) := by decide +kernel
theorem d_S_clear_1 : decode b_S_clear 1 = .ok (.iconst 0, 1) := by decide +kernel
theorem d_S_clear_2 : decode b_S_clear 2 = .ok (.putfield 21, 3) := by decide +kernel
theorem d_S_clear_5 : decode b_S_clear 5 = .ok (.return_, 1) := by decide +kernel
theorem d_I_isThere_0 : decode b_I_isThere 0 = .ok (.aload_n 0, 1) := by decide +kernel
theorem d_I_isThere_1 : decode b_I_isThere 1 = .ok (.getfield 56, 3) := by decide +kernel
theorem d_I_isThere_4 : decode b_I_isThere 4 = .ok (.iconst 3, 1) := by decide +kernel
theorem d_I_isThere_5 : decode b_I_isThere 5 = .ok (.if_icmp .eq 11, 3) := by decide +kernel
theorem d_I_isThere_8 : decode b_I_isThere 8 = .ok (.aload_n 0, 1) := by decide +kernel
theorem d_I_isThere_9 : decode b_I_isThere 9 = .ok (.getfield 56, 3) := by decide +kernel
theorem d_I_isThere_12 : decode b_I_isThere 12 = .ok (.iconst 5, 1) := by decide +kernel
theorem d_I_isThere_13 : decode b_I_isThere 13 = .ok (.if_icmp .ne 7, 3) := by decide +kernel
theorem d_I_isThere_16 : decode b_I_isThere 16 = .ok (.iconst 1, 1) := by decide +kernel
theorem d_I_isThere_17 : decode b_I_isThere 17 = .ok (.goto 4, 3) := by decide +kernel
theorem d_I_isThere_20 : decode b_I_isThere 20 = .ok (.iconst 0, 1) := by decide +kernel
theorem d_I_isThere_21 : decode b_I_isThere 21 = .ok (.ireturn, 1) := by decide +kernel
theorem d_S_add_0 : decode b_S_add 0 = .ok (.iload_n 2, 1) := by decide +kernel
theorem d_S_add_1 : decode b_S_add 1 = .ok (.ifCond .eq 43, 3) := by decide +kernel
theorem d_S_add_4 : decode b_S_add 4 = .ok (.aload_n 0, 1) := by decide +kernel
theorem d_S_add_5 : decode b_S_add 5 = .ok (.getfield 21, 3) := by decide +kernel
theorem d_S_add_8 : decode b_S_add 8 = .ok (.sipush 200, 3) := by decide +kernel
theorem d_S_add_11 : decode b_S_add 11 = .ok (.if_icmp .ge 33, 3) := by decide +kernel
theorem d_S_add_14 : decode b_S_add 14 = .ok (.aload_n 0, 1) := by decide +kernel
theorem d_S_add_15 : decode b_S_add 15 = .ok (.getfield 9, 3) := by decide +kernel
theorem d_S_add_18 : decode b_S_add 18 = .ok (.aload_n 0, 1) := by decide +kernel
theorem d_S_add_19 : decode b_S_add 19 = .ok (.getfield 21, 3) := by decide +kernel
theorem d_S_add_22 : decode b_S_add 22 = .ok (.iload_n 1, 1) := by decide +kernel
theorem d_S_add_23 : decode b_S_add 23 = .ok (.iastore, 1) := by decide +kernel
theorem d_S_add_24 : decode b_S_add 24 = .ok (.aload_n 0, 1) := by decide +kernel
theorem d_S_add_25 : decode b_S_add 25 = .ok (.getfield 18, 3) := by decide +kernel
theorem d_S_add_28 : decode b_S_add 28 = .ok (.aload_n 0, 1) := by decide +kernel
theorem d_S_add_29 : decode b_S_add 29 = .ok (.getfield 21, 3) := by decide +kernel
theorem d_S_add_32 : decode b_S_add 32 = .ok (.iconst 0, 1) := by decide +kernel
theorem d_S_add_33 : decode b_S_add 33 = .ok (.iastore, 1) := by decide +kernel
theorem d_S_add_34 : decode b_S_add 34 = .ok (.aload_n 0, 1) := by decide +kernel
theorem d_S_add_35 : decode b_S_add 35 = .ok (.dup, 1) := by decide +kernel
theorem d_S_add_36 : decode b_S_add 36 = .ok (.getfield 21, 3) := by decide +kernel
theorem d_S_add_39 : decode b_S_add 39 = .ok (.iconst 1, 1) := by decide +kernel
theorem d_S_add_40 : decode b_S_add 40 = .ok (.iadd, 1) := by decide +kernel
theorem d_S_add_41 : decode b_S_add 41 = .ok (.putfield 21, 3) := by decide +kernel
theorem d_S_add_44 : decode b_S_add 44 = .ok (.aload_n 0, 1) := by decide +kernel
theorem d_S_add_45 : decode b_S_add 45 = .ok (.getfield 21, 3) := by decide +kernel
theorem d_S_add_48 : decode b_S_add 48 = .ok (.ifCond .le 30, 3) := by decide +kernel
theorem d_S_add_51 : decode b_S_add 51 = .ok (.aload_n 0, 1) := by decide +kernel
theorem d_S_add_52 : decode b_S_add 52 = .ok (.getfield 15, 3) := by decide +kernel
theorem d_S_add_55 : decode b_S_add 55 = .ok (.aload_n 0, 1) := by decide +kernel
theorem d_S_add_56 : decode b_S_add 56 = .ok (.getfield 21, 3) := by decide +kernel
theorem d_S_add_59 : decode b_S_add 59 = .ok (.iconst 1, 1) := by decide +kernel
theorem d_S_add_60 : decode b_S_add 60 = .ok (.isub, 1) := by decide +kernel
theorem d_S_add_61 : decode b_S_add 61 = .ok (.iload_n 1, 1) := by decide +kernel
theorem d_S_add_62 : decode b_S_add 62 = .ok (.iastore, 1) := by decide +kernel
theorem d_S_add_63 : decode b_S_add 63 = .ok (.aload_n 0, 1) := by decide +kernel
theorem d_S_add_64 : decode b_S_add 64 = .ok (.getfield 18, 3) := by decide +kernel
theorem d_S_add_67 : decode b_S_add 67 = .ok (.aload_n 0, 1) := by decide +kernel
theorem d_S_add_68 : decode b_S_add 68 = .ok (.getfield 21, 3) := by decide +kernel
theorem d_S_add_71 : decode b_S_add 71 = .ok (.iconst 1, 1) := by decide +kernel
theorem d_S_add_72 : decode b_S_add 72 = .ok (.isub, 1) := by decide +kernel
theorem d_S_add_73 : decode b_S_add 73 = .ok (.dup2, 1) := by decide +kernel
theorem d_S_add_74 : decode b_S_add 74 = .ok (.iaload, 1) := by decide +kernel
theorem d_S_add_75 : decode b_S_add 75 = .ok (.iconst 1, 1) := by decide +kernel
theorem d_S_add_76 : decode b_S_add 76 = .ok (.iadd, 1) := by decide +kernel
theorem d_S_add_77 : decode b_S_add 77 = .ok (.iastore, 1) := by decide +kernel
theorem d_S_add_78 : decode b_S_add 78 = .ok (.return_, 1) := by decide +kernel
theorem d_I_part_0 : decode b_I_part 0 = .ok (.iload_n 1, 1) := by decide +kernel
theorem d_I_part_1 : decode b_I_part 1 = .ok (.tableswitch 117 0 10 #[59, 64, 69, 74, 79, 84, 89, 94, 102, 107, 112], 59) := by decide +kernel
theorem d_I_part_60 : decode b_I_part 60 = .ok (.aload_n 0, 1) := by decide +kernel
theorem d_I_part_61 : decode b_I_part 61 = .ok (.getfield 43, 3) := by decide +kernel
theorem d_I_part_64 : decode b_I_part 64 = .ok (.ireturn, 1) := by decide +kernel
theorem d_I_part_65 : decode b_I_part 65 = .ok (.aload_n 0, 1) := by decide +kernel
theorem d_I_part_66 : decode b_I_part 66 = .ok (.getfield 46, 3) := by decide +kernel
theorem d_I_part_69 : decode b_I_part 69 = .ok (.ireturn, 1) := by decide +kernel
theorem d_I_part_70 : decode b_I_part 70 = .ok (.aload_n 0, 1) := by decide +kernel
theorem d_I_part_71 : decode b_I_part 71 = .ok (.getfield 56, 3) := by decide +kernel
theorem d_I_part_74 : decode b_I_part 74 = .ok (.ireturn, 1) := by decide +kernel
theorem d_I_part_75 : decode b_I_part 75 = .ok (.aload_n 0, 1) := by decide +kernel
theorem d_I_part_76 : decode b_I_part 76 = .ok (.getfield 49, 3) := by decide +kernel
theorem d_I_part_79 : decode b_I_part 79 = .ok (.ireturn, 1) := by decide +kernel
theorem d_I_part_80 : decode b_I_part 80 = .ok (.aload_n 0, 1) := by decide +kernel
theorem d_I_part_81 : decode b_I_part 81 = .ok (.getfield 18, 3) := by decide +kernel
theorem d_I_part_84 : decode b_I_part 84 = .ok (.ireturn, 1) := by decide +kernel
theorem d_I_part_85 : decode b_I_part 85 = .ok (.aload_n 0, 1) := by decide +kernel
theorem d_I_part_86 : decode b_I_part 86 = .ok (.getfield 25, 3) := by decide +kernel
theorem d_I_part_89 : decode b_I_part 89 = .ok (.ireturn, 1) := by decide +kernel
theorem d_I_part_90 : decode b_I_part 90 = .ok (.aload_n 0, 1) := by decide +kernel
theorem d_I_part_91 : decode b_I_part 91 = .ok (.getfield 28, 3) := by decide +kernel
theorem d_I_part_94 : decode b_I_part 94 = .ok (.ireturn, 1) := by decide +kernel
theorem d_I_part_95 : decode b_I_part 95 = .ok (.aload_n 0, 1) := by decide +kernel
theorem d_I_part_96 : decode b_I_part 96 = .ok (.getfield 12, 3) := by decide +kernel
theorem d_I_part_99 : decode b_I_part 99 = .ok (.invokevirtual 63, 3) := by decide +kernel
theorem d_I_part_102 : decode b_I_part 102 = .ok (.ireturn, 1) := by decide +kernel
theorem d_I_part_103 : decode b_I_part 103 = .ok (.aload_n 0, 1) := by decide +kernel
theorem d_I_part_104 : decode b_I_part 104 = .ok (.getfield 31, 3) := by decide +kernel
theorem d_I_part_107 : decode b_I_part 107 = .ok (.ireturn, 1) := by decide +kernel
theorem d_I_part_108 : decode b_I_part 108 = .ok (.aload_n 0, 1) := by decide +kernel
theorem d_I_part_109 : decode b_I_part 109 = .ok (.getfield 34, 3) := by decide +kernel
theorem d_I_part_112 : decode b_I_part 112 = .ok (.ireturn, 1) := by decide +kernel
theorem d_I_part_113 : decode b_I_part 113 = .ok (.aload_n 0, 1) := by decide +kernel
theorem d_I_part_114 : decode b_I_part 114 = .ok (.getfield 37, 3) := by decide +kernel
theorem d_I_part_117 : decode b_I_part 117 = .ok (.ireturn, 1) := by decide +kernel
theorem d_I_part_118 : decode b_I_part 118 = .ok (.iconst (-1), 1) := by decide +kernel
theorem d_I_part_119 : decode b_I_part 119 = .ok (.ireturn, 1) := by decide +kernel
theorem d_P_has_0 : decode b_P_has 0 = .ok (.iload_n 1, 1) := by decide +kernel
theorem d_P_has_1 : decode b_P_has 1 = .ok (.iconst 0, 1) := by decide +kernel
theorem d_P_has_2 : decode b_P_has 2 = .ok (.aload_n 0, 1) := by decide +kernel
theorem d_P_has_3 : decode b_P_has 3 = .ok (.getfield 9, 3) := by decide +kernel
theorem d_P_has_6 : decode b_P_has 6 = .ok (.iconst 1, 1) := by decide +kernel
theorem d_P_has_7 : decode b_P_has 7 = .ok (.isub, 1) := by decide +kernel
theorem d_P_has_8 : decode b_P_has 8 = .ok (.invokestatic 28, 3) := by decide +kernel
theorem d_P_has_11 : decode b_P_has 11 = .ok (.ifCond .eq 16, 3) := by decide +kernel
theorem d_P_has_14 : decode b_P_has 14 = .ok (.iload_n 2, 1) := by decide +kernel
theorem d_P_has_15 : decode b_P_has 15 = .ok (.iconst 0, 1) := by decide +kernel
theorem d_P_has_16 : decode b_P_has 16 = .ok (.iconst 1, 1) := by decide +kernel
theorem d_P_has_17 : decode b_P_has 17 = .ok (.invokestatic 28, 3) := by decide +kernel
theorem d_P_has_20 : decode b_P_has 20 = .ok (.ifCond .eq 7, 3) := by decide +kernel
theorem d_P_has_23 : decode b_P_has 23 = .ok (.iconst 1, 1) := by decide +kernel
theorem d_P_has_24 : decode b_P_has 24 = .ok (.goto 4, 3) := by decide +kernel
theorem d_P_has_27 : decode b_P_has 27 = .ok (.iconst 0, 1) := by decide +kernel
theorem d_P_has_28 : decode b_P_has 28 = .ok (.ireturn, 1) := by decide +kernel
theorem d_P_part_0 : decode b_P_part 0 = .ok (.aload_n 0, 1) := by decide +kernel
theorem d_P_part_1 : decode b_P_part 1 = .ok (.iload_n 1, 1) := by decide +kernel
theorem d_P_part_2 : decode b_P_part 2 = .ok (.iload_n 2, 1) := by decide +kernel
theorem d_P_part_3 : decode b_P_part 3 = .ok (.invokevirtual 32, 3) := by decide +kernel
theorem d_P_part_6 : decode b_P_part 6 = .ok (.ifCond .ne 5, 3) := by decide +kernel
theorem d_P_part_9 : decode b_P_part 9 = .ok (.iconst (-1), 1) := by decide +kernel
theorem d_P_part_10 : decode b_P_part 10 = .ok (.ireturn, 1) := by decide +kernel
theorem d_P_part_11 : decode b_P_part 11 = .ok (.iload_n 2, 1) := by decide +kernel
theorem d_P_part_12 : decode b_P_part 12 = .ok (.ifCond .ne 12, 3) := by decide +kernel
theorem d_P_part_15 : decode b_P_part 15 = .ok (.aload_n 0, 1) := by decide +kernel
theorem d_P_part_16 : decode b_P_part 16 = .ok (.getfield 21, 3) := by decide +kernel
theorem d_P_part_19 : decode b_P_part 19 = .ok (.iload_n 1, 1) := by decide +kernel
theorem d_P_part_20 : decode b_P_part 20 = .ok (.iaload, 1) := by decide +kernel
theorem d_P_part_21 : decode b_P_part 21 = .ok (.goto 9, 3) := by decide +kernel
theorem d_P_part_24 : decode b_P_part 24 = .ok (.aload_n 0, 1) := by decide +kernel
theorem d_P_part_25 : decode b_P_part 25 = .ok (.getfield 25, 3) := by decide +kernel
theorem d_P_part_28 : decode b_P_part 28 = .ok (.iload_n 1, 1) := by decide +kernel
theorem d_P_part_29 : decode b_P_part 29 = .ok (.iaload, 1) := by decide +kernel
theorem d_P_part_30 : decode b_P_part 30 = .ok (.ireturn, 1) := by decide +kernel
theorem d_I_daysLate_0 : decode b_I_daysLate 0 = .ok (.aload_n 0, 1) := by decide +kernel
theorem d_I_daysLate_1 : decode b_I_daysLate 1 = .ok (.getfield 28, 3) := by decide +kernel
theorem d_I_daysLate_4 : decode b_I_daysLate 4 = .ok (.iconst (-1), 1) := by decide +kernel
theorem d_I_daysLate_5 : decode b_I_daysLate 5 = .ok (.if_icmp .eq 22, 3) := by decide +kernel
theorem d_I_daysLate_8 : decode b_I_daysLate 8 = .ok (.aload_n 0, 1) := by decide +kernel
theorem d_I_daysLate_9 : decode b_I_daysLate 9 = .ok (.getfield 49, 3) := by decide +kernel
theorem d_I_daysLate_12 : decode b_I_daysLate 12 = .ok (.iconst (-1), 1) := by decide +kernel
theorem d_I_daysLate_13 : decode b_I_daysLate 13 = .ok (.if_icmp .eq 14, 3) := by decide +kernel
theorem d_I_daysLate_16 : decode b_I_daysLate 16 = .ok (.aload_n 0, 1) := by decide +kernel
theorem d_I_daysLate_17 : decode b_I_daysLate 17 = .ok (.getfield 52, 3) := by decide +kernel
theorem d_I_daysLate_20 : decode b_I_daysLate 20 = .ok (.ifCond .ne 7, 3) := by decide +kernel
theorem d_I_daysLate_23 : decode b_I_daysLate 23 = .ok (.iconst 1, 1) := by decide +kernel
theorem d_I_daysLate_24 : decode b_I_daysLate 24 = .ok (.goto 4, 3) := by decide +kernel
theorem d_I_daysLate_27 : decode b_I_daysLate 27 = .ok (.iconst 0, 1) := by decide +kernel
theorem d_I_daysLate_28 : decode b_I_daysLate 28 = .ok (.istore_n 1, 1) := by decide +kernel
theorem d_I_daysLate_29 : decode b_I_daysLate 29 = .ok (.iload_n 1, 1) := by decide +kernel
theorem d_I_daysLate_30 : decode b_I_daysLate 30 = .ok (.ifCond .eq 26, 3) := by decide +kernel
theorem d_I_daysLate_33 : decode b_I_daysLate 33 = .ok (.aload_n 0, 1) := by decide +kernel
theorem d_I_daysLate_34 : decode b_I_daysLate 34 = .ok (.getfield 28, 3) := by decide +kernel
theorem d_I_daysLate_37 : decode b_I_daysLate 37 = .ok (.aload_n 0, 1) := by decide +kernel
theorem d_I_daysLate_38 : decode b_I_daysLate 38 = .ok (.getfield 49, 3) := by decide +kernel
theorem d_I_daysLate_41 : decode b_I_daysLate 41 = .ok (.if_icmp .le 15, 3) := by decide +kernel
theorem d_I_daysLate_44 : decode b_I_daysLate 44 = .ok (.aload_n 0, 1) := by decide +kernel
theorem d_I_daysLate_45 : decode b_I_daysLate 45 = .ok (.getfield 28, 3) := by decide +kernel
theorem d_I_daysLate_48 : decode b_I_daysLate 48 = .ok (.aload_n 0, 1) := by decide +kernel
theorem d_I_daysLate_49 : decode b_I_daysLate 49 = .ok (.getfield 49, 3) := by decide +kernel
theorem d_I_daysLate_52 : decode b_I_daysLate 52 = .ok (.isub, 1) := by decide +kernel
theorem d_I_daysLate_53 : decode b_I_daysLate 53 = .ok (.goto 4, 3) := by decide +kernel
theorem d_I_daysLate_56 : decode b_I_daysLate 56 = .ok (.iconst 0, 1) := by decide +kernel
theorem d_I_daysLate_57 : decode b_I_daysLate 57 = .ok (.ireturn, 1) := by decide +kernel
theorem d_V_has_0 : decode b_V_has 0 = .ok (.iload_n 1, 1) := by decide +kernel
theorem d_V_has_1 : decode b_V_has 1 = .ok (.iconst 0, 1) := by decide +kernel
theorem d_V_has_2 : decode b_V_has 2 = .ok (.aload_n 0, 1) := by decide +kernel
theorem d_V_has_3 : decode b_V_has 3 = .ok (.getfield 18, 3) := by decide +kernel
theorem d_V_has_6 : decode b_V_has 6 = .ok (.iconst 1, 1) := by decide +kernel
theorem d_V_has_7 : decode b_V_has 7 = .ok (.isub, 1) := by decide +kernel
theorem d_V_has_8 : decode b_V_has 8 = .ok (.invokestatic 26, 3) := by decide +kernel
theorem d_V_has_11 : decode b_V_has 11 = .ok (.ifCond .eq 32, 3) := by decide +kernel
theorem d_V_has_14 : decode b_V_has 14 = .ok (.iload_n 2, 1) := by decide +kernel
theorem d_V_has_15 : decode b_V_has 15 = .ok (.iconst 0, 1) := by decide +kernel
theorem d_V_has_16 : decode b_V_has 16 = .ok (.aload_n 0, 1) := by decide +kernel
theorem d_V_has_17 : decode b_V_has 17 = .ok (.getfield 15, 3) := by decide +kernel
theorem d_V_has_20 : decode b_V_has 20 = .ok (.iload_n 1, 1) := by decide +kernel
theorem d_V_has_21 : decode b_V_has 21 = .ok (.iconst 1, 1) := by decide +kernel
theorem d_V_has_22 : decode b_V_has 22 = .ok (.iadd, 1) := by decide +kernel
theorem d_V_has_23 : decode b_V_has 23 = .ok (.iaload, 1) := by decide +kernel
theorem d_V_has_24 : decode b_V_has 24 = .ok (.aload_n 0, 1) := by decide +kernel
theorem d_V_has_25 : decode b_V_has 25 = .ok (.getfield 15, 3) := by decide +kernel
theorem d_V_has_28 : decode b_V_has 28 = .ok (.iload_n 1, 1) := by decide +kernel
theorem d_V_has_29 : decode b_V_has 29 = .ok (.iaload, 1) := by decide +kernel
theorem d_V_has_30 : decode b_V_has 30 = .ok (.isub, 1) := by decide +kernel
theorem d_V_has_31 : decode b_V_has 31 = .ok (.iconst 1, 1) := by decide +kernel
theorem d_V_has_32 : decode b_V_has 32 = .ok (.isub, 1) := by decide +kernel
theorem d_V_has_33 : decode b_V_has 33 = .ok (.invokestatic 26, 3) := by decide +kernel
theorem d_V_has_36 : decode b_V_has 36 = .ok (.ifCond .eq 7, 3) := by decide +kernel
theorem d_V_has_39 : decode b_V_has 39 = .ok (.iconst 1, 1) := by decide +kernel
theorem d_V_has_40 : decode b_V_has 40 = .ok (.goto 4, 3) := by decide +kernel
theorem d_V_has_43 : decode b_V_has 43 = .ok (.iconst 0, 1) := by decide +kernel
theorem d_V_has_44 : decode b_V_has 44 = .ok (.ireturn, 1) := by decide +kernel
theorem d_V_member_0 : decode b_V_member 0 = .ok (.aload_n 0, 1) := by decide +kernel
theorem d_V_member_1 : decode b_V_member 1 = .ok (.iload_n 1, 1) := by decide +kernel
theorem d_V_member_2 : decode b_V_member 2 = .ok (.iload_n 2, 1) := by decide +kernel
theorem d_V_member_3 : decode b_V_member 3 = .ok (.invokevirtual 30, 3) := by decide +kernel
theorem d_V_member_6 : decode b_V_member 6 = .ok (.ifCond .eq 19, 3) := by decide +kernel
theorem d_V_member_9 : decode b_V_member 9 = .ok (.aload_n 0, 1) := by decide +kernel
theorem d_V_member_10 : decode b_V_member 10 = .ok (.getfield 9, 3) := by decide +kernel
theorem d_V_member_13 : decode b_V_member 13 = .ok (.aload_n 0, 1) := by decide +kernel
theorem d_V_member_14 : decode b_V_member 14 = .ok (.getfield 15, 3) := by decide +kernel
theorem d_V_member_17 : decode b_V_member 17 = .ok (.iload_n 1, 1) := by decide +kernel
theorem d_V_member_18 : decode b_V_member 18 = .ok (.iaload, 1) := by decide +kernel
theorem d_V_member_19 : decode b_V_member 19 = .ok (.iload_n 2, 1) := by decide +kernel
theorem d_V_member_20 : decode b_V_member 20 = .ok (.iadd, 1) := by decide +kernel
theorem d_V_member_21 : decode b_V_member 21 = .ok (.iaload, 1) := by decide +kernel
theorem d_V_member_22 : decode b_V_member 22 = .ok (.goto 4, 3) := by decide +kernel
theorem d_V_member_25 : decode b_V_member 25 = .ok (.iconst (-1), 1) := by decide +kernel
theorem d_V_member_26 : decode b_V_member 26 = .ok (.ireturn, 1) := by decide +kernel
theorem d_S_has_0 : decode b_S_has 0 = .ok (.iload_n 1, 1) := by decide +kernel
theorem d_S_has_1 : decode b_S_has 1 = .ok (.iconst 0, 1) := by decide +kernel
theorem d_S_has_2 : decode b_S_has 2 = .ok (.aload_n 0, 1) := by decide +kernel
theorem d_S_has_3 : decode b_S_has 3 = .ok (.getfield 21, 3) := by decide +kernel
theorem d_S_has_6 : decode b_S_has 6 = .ok (.iconst 1, 1) := by decide +kernel
theorem d_S_has_7 : decode b_S_has 7 = .ok (.isub, 1) := by decide +kernel
theorem d_S_has_8 : decode b_S_has 8 = .ok (.invokestatic 25, 3) := by decide +kernel
theorem d_S_has_11 : decode b_S_has 11 = .ok (.ifCond .eq 16, 3) := by decide +kernel
theorem d_S_has_14 : decode b_S_has 14 = .ok (.iload_n 2, 1) := by decide +kernel
theorem d_S_has_15 : decode b_S_has 15 = .ok (.iconst 0, 1) := by decide +kernel
theorem d_S_has_16 : decode b_S_has 16 = .ok (.iconst 3, 1) := by decide +kernel
theorem d_S_has_17 : decode b_S_has 17 = .ok (.invokestatic 25, 3) := by decide +kernel
theorem d_S_has_20 : decode b_S_has 20 = .ok (.ifCond .eq 7, 3) := by decide +kernel
theorem d_S_has_23 : decode b_S_has 23 = .ok (.iconst 1, 1) := by decide +kernel
theorem d_S_has_24 : decode b_S_has 24 = .ok (.goto 4, 3) := by decide +kernel
theorem d_S_has_27 : decode b_S_has 27 = .ok (.iconst 0, 1) := by decide +kernel
theorem d_S_has_28 : decode b_S_has 28 = .ok (.ireturn, 1) := by decide +kernel
theorem d_S_part_0 : decode b_S_part 0 = .ok (.aload_n 0, 1) := by decide +kernel
theorem d_S_part_1 : decode b_S_part 1 = .ok (.iload_n 1, 1) := by decide +kernel
theorem d_S_part_2 : decode b_S_part 2 = .ok (.iload_n 2, 1) := by decide +kernel
theorem d_S_part_3 : decode b_S_part 3 = .ok (.invokevirtual 29, 3) := by decide +kernel
theorem d_S_part_6 : decode b_S_part 6 = .ok (.ifCond .ne 5, 3) := by decide +kernel
theorem d_S_part_9 : decode b_S_part 9 = .ok (.iconst (-1), 1) := by decide +kernel
theorem d_S_part_10 : decode b_S_part 10 = .ok (.ireturn, 1) := by decide +kernel
theorem d_S_part_11 : decode b_S_part 11 = .ok (.iload_n 2, 1) := by decide +kernel
theorem d_S_part_12 : decode b_S_part 12 = .ok (.tableswitch 49 0 2 #[28, 35, 42], 28) := by decide +kernel
theorem d_S_part_40 : decode b_S_part 40 = .ok (.aload_n 0, 1) := by decide +kernel
theorem d_S_part_41 : decode b_S_part 41 = .ok (.getfield 9, 3) := by decide +kernel
theorem d_S_part_44 : decode b_S_part 44 = .ok (.iload_n 1, 1) := by decide +kernel
theorem d_S_part_45 : decode b_S_part 45 = .ok (.iaload, 1) := by decide +kernel
theorem d_S_part_46 : decode b_S_part 46 = .ok (.ireturn, 1) := by decide +kernel
theorem d_S_part_47 : decode b_S_part 47 = .ok (.aload_n 0, 1) := by decide +kernel
theorem d_S_part_48 : decode b_S_part 48 = .ok (.getfield 15, 3) := by decide +kernel
theorem d_S_part_51 : decode b_S_part 51 = .ok (.iload_n 1, 1) := by decide +kernel
theorem d_S_part_52 : decode b_S_part 52 = .ok (.iaload, 1) := by decide +kernel
theorem d_S_part_53 : decode b_S_part 53 = .ok (.ireturn, 1) := by decide +kernel
theorem d_S_part_54 : decode b_S_part 54 = .ok (.aload_n 0, 1) := by decide +kernel
theorem d_S_part_55 : decode b_S_part 55 = .ok (.getfield 18, 3) := by decide +kernel
theorem d_S_part_58 : decode b_S_part 58 = .ok (.iload_n 1, 1) := by decide +kernel
theorem d_S_part_59 : decode b_S_part 59 = .ok (.iaload, 1) := by decide +kernel
theorem d_S_part_60 : decode b_S_part 60 = .ok (.ireturn, 1) := by decide +kernel
theorem d_S_part_61 : decode b_S_part 61 = .ok (.iload_n 1, 1) := by decide +kernel
theorem d_S_part_62 : decode b_S_part 62 = .ok (.aload_n 0, 1) := by decide +kernel
theorem d_S_part_63 : decode b_S_part 63 = .ok (.getfield 21, 3) := by decide +kernel
theorem d_S_part_66 : decode b_S_part 66 = .ok (.iconst 1, 1) := by decide +kernel
theorem d_S_part_67 : decode b_S_part 67 = .ok (.isub, 1) := by decide +kernel
theorem d_S_part_68 : decode b_S_part 68 = .ok (.if_icmp .ge 7, 3) := by decide +kernel
theorem d_S_part_71 : decode b_S_part 71 = .ok (.iconst 1, 1) := by decide +kernel
theorem d_S_part_72 : decode b_S_part 72 = .ok (.goto 4, 3) := by decide +kernel
theorem d_S_part_75 : decode b_S_part 75 = .ok (.iconst 0, 1) := by decide +kernel
theorem d_S_part_76 : decode b_S_part 76 = .ok (.ireturn, 1) := by decide +kernel
