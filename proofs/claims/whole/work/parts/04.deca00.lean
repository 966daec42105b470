theorem d_P_init_0 : decode b_P_init 0 = .ok (.aload_n 0, 1) := by decide +kernel
theorem d_P_init_1 : decode b_P_init 1 = .ok (.invokespecial 3, 3) := by decide +kernel
theorem d_P_init_4 : decode b_P_init 4 = .ok (.aload_n 0, 1) := by decide +kernel
theorem d_P_init_5 : decode b_P_init 5 = .ok (.iconst 0, 1) := by decide +kernel
theorem d_P_init_6 : decode b_P_init 6 = .ok (.putfield 9, 3) := by decide +kernel
theorem d_P_init_9 : decode b_P_init 9 = .ok (.iload_n 1, 1) := by decide +kernel
theorem d_P_init_10 : decode b_P_init 10 = .ok (.iconst 0, 1) := by decide +kernel
theorem d_P_init_11 : decode b_P_init 11 = .ok (.invokestatic 15, 3) := by decide +kernel
theorem d_P_init_14 : decode b_P_init 14 = .ok (.istore_n 2, 1) := by decide +kernel
theorem d_P_init_15 : decode b_P_init 15 = .ok (.aload_n 0, 1) := by decide +kernel
theorem d_P_init_16 : decode b_P_init 16 = .ok (.iload_n 2, 1) := by decide +kernel
theorem d_P_init_17 : decode b_P_init 17 = .ok (.newarray .int, 2) := by decide +kernel
theorem d_P_init_19 : decode b_P_init 19 = .ok (.putfield 21, 3) := by decide +kernel
theorem d_P_init_22 : decode b_P_init 22 = .ok (.aload_n 0, 1) := by decide +kernel
theorem d_P_init_23 : decode b_P_init 23 = .ok (.iload_n 2, 1) := by decide +kernel
theorem d_P_init_24 : decode b_P_init 24 = .ok (.newarray .int, 2) := by decide +kernel
theorem d_P_init_26 : decode b_P_init 26 = .ok (.putfield 25, 3) := by decide +kernel
theorem d_P_init_29 : decode b_P_init 29 = .ok (.return_, 1) := by decide +kernel
theorem d_V_init_0 : decode b_V_init 0 = .ok (.aload_n 0, 1) := by decide +kernel
theorem d_V_init_1 : decode b_V_init 1 = .ok (.invokespecial 3, 3) := by decide +kernel
theorem d_V_init_4 : decode b_V_init 4 = .ok (.aload_n 0, 1) := by decide +kernel
theorem d_V_init_5 : decode b_V_init 5 = .ok (.sipush 200, 3) := by decide +kernel
theorem d_V_init_8 : decode b_V_init 8 = .ok (.newarray .int, 2) := by decide +kernel
theorem d_V_init_10 : decode b_V_init 10 = .ok (.putfield 9, 3) := by decide +kernel
theorem d_V_init_13 : decode b_V_init 13 = .ok (.aload_n 0, 1) := by decide +kernel
theorem d_V_init_14 : decode b_V_init 14 = .ok (.bipush 41, 2) := by decide +kernel
theorem d_V_init_16 : decode b_V_init 16 = .ok (.newarray .int, 2) := by decide +kernel
theorem d_V_init_18 : decode b_V_init 18 = .ok (.putfield 15, 3) := by decide +kernel
theorem d_V_init_21 : decode b_V_init 21 = .ok (.aload_n 0, 1) := by decide +kernel
theorem d_V_init_22 : decode b_V_init 22 = .ok (.iconst 0, 1) := by decide +kernel
theorem d_V_init_23 : decode b_V_init 23 = .ok (.putfield 18, 3) := by decide +kernel
theorem d_V_init_26 : decode b_V_init 26 = .ok (.return_, 1) := by decide +kernel
theorem d_S_init_0 : decode b_S_init 0 = .ok (.aload_n 0, 1) := by decide +kernel
theorem d_S_init_1 : decode b_S_init 1 = .ok (.invokespecial 3, 3) := by decide +kernel
theorem d_S_init_4 : decode b_S_init 4 = .ok (.aload_n 0, 1) := by decide +kernel
theorem d_S_init_5 : decode b_S_init 5 = .ok (.sipush 200, 3) := by decide +kernel
theorem d_S_init_8 : decode b_S_init 8 = .ok (.newarray .int, 2) := by decide +kernel
theorem d_S_init_10 : decode b_S_init 10 = .ok (.putfield 9, 3) := by decide +kernel
theorem d_S_init_13 : decode b_S_init 13 = .ok (.aload_n 0, 1) := by decide +kernel
theorem d_S_init_14 : decode b_S_init 14 = .ok (.sipush 200, 3) := by decide +kernel
theorem d_S_init_17 : decode b_S_init 17 = .ok (.newarray .int, 2) := by decide +kernel
theorem d_S_init_19 : decode b_S_init 19 = .ok (.putfield 15, 3) := by decide +kernel
theorem d_S_init_22 : decode b_S_init 22 = .ok (.aload_n 0, 1) := by decide +kernel
theorem d_S_init_23 : decode b_S_init 23 = .ok (.sipush 200, 3) := by decide +kernel
theorem d_S_init_26 : decode b_S_init 26 = .ok (.newarray .int, 2) := by decide +kernel
theorem d_S_init_28 : decode b_S_init 28 = .ok (.putfield 18, 3) := by decide +kernel
theorem d_S_init_31 : decode b_S_init 31 = .ok (.aload_n 0, 1) := by decide +kernel
theorem d_S_init_32 : decode b_S_init 32 = .ok (.iconst 0, 1) := by decide +kernel
theorem d_S_init_33 : decode b_S_init 33 = .ok (.putfield 21, 3) := by decide +kernel
theorem d_S_init_36 : decode b_S_init 36 = .ok (.return_, 1) := by decide +kernel
theorem d_U_init_0 : decode b_U_init 0 = .ok (.aload_n 0, 1) := by decide +kernel
theorem d_U_init_1 : decode b_U_init 1 = .ok (.invokespecial 3, 3) := by decide +kernel
theorem d_U_init_4 : decode b_U_init 4 = .ok (.aload_n 0, 1) := by decide +kernel
theorem d_U_init_5 : decode b_U_init 5 = .ok (.bipush 30, 2) := by decide +kernel
theorem d_U_init_7 : decode b_U_init 7 = .ok (.putfield 9, 3) := by decide +kernel
theorem d_U_init_10 : decode b_U_init 10 = .ok (.aload_n 0, 1) := by decide +kernel
theorem d_U_init_11 : decode b_U_init 11 = .ok (.bipush 20, 2) := by decide +kernel
theorem d_U_init_13 : decode b_U_init 13 = .ok (.putfield 15, 3) := by decide +kernel
theorem d_U_init_16 : decode b_U_init 16 = .ok (.aload_n 0, 1) := by decide +kernel
theorem d_U_init_17 : decode b_U_init 17 = .ok (.iconst 3, 1) := by decide +kernel
theorem d_U_init_18 : decode b_U_init 18 = .ok (.putfield 18, 3) := by decide +kernel
theorem d_U_init_21 : decode b_U_init 21 = .ok (.return_, 1) := by decide +kernel
theorem d_I_init_0 : decode b_I_init 0 = .ok (.aload_n 0, 1) := by decide +kernel
theorem d_I_init_1 : decode b_I_init 1 = .ok (.invokespecial 3, 3) := by decide +kernel
theorem d_I_init_4 : decode b_I_init 4 = .ok (.aload_n 0, 1) := by decide +kernel
theorem d_I_init_5 : decode b_I_init 5 = .ok (.new 9, 3) := by decide +kernel
theorem d_I_init_8 : decode b_I_init 8 = .ok (.dup, 1) := by decide +kernel
theorem d_I_init_9 : decode b_I_init 9 = .ok (.invokespecial 11, 3) := by decide +kernel
theorem d_I_init_12 : decode b_I_init 12 = .ok (.putfield 12, 3) := by decide +kernel
theorem d_I_init_15 : decode b_I_init 15 = .ok (.aload_n 0, 1) := by decide +kernel
theorem d_I_init_16 : decode b_I_init 16 = .ok (.iconst 0, 1) := by decide +kernel
theorem d_I_init_17 : decode b_I_init 17 = .ok (.putfield 18, 3) := by decide +kernel
theorem d_I_init_20 : decode b_I_init 20 = .ok (.aload_n 0, 1) := by decide +kernel
theorem d_I_init_21 : decode b_I_init 21 = .ok (.iconst (-1), 1) := by decide +kernel
theorem d_I_init_22 : decode b_I_init 22 = .ok (.putfield 22, 3) := by decide +kernel
theorem d_I_init_25 : decode b_I_init 25 = .ok (.aload_n 0, 1) := by decide +kernel
theorem d_I_init_26 : decode b_I_init 26 = .ok (.iconst 0, 1) := by decide +kernel
theorem d_I_init_27 : decode b_I_init 27 = .ok (.putfield 25, 3) := by decide +kernel
theorem d_I_init_30 : decode b_I_init 30 = .ok (.aload_n 0, 1) := by decide +kernel
theorem d_I_init_31 : decode b_I_init 31 = .ok (.iconst (-1), 1) := by decide +kernel
theorem d_I_init_32 : decode b_I_init 32 = .ok (.putfield 28, 3) := by decide +kernel
theorem d_I_init_35 : decode b_I_init 35 = .ok (.aload_n 0, 1) := by decide +kernel
theorem d_I_init_36 : decode b_I_init 36 = .ok (.iconst (-1), 1) := by decide +kernel
theorem d_I_init_37 : decode b_I_init 37 = .ok (.putfield 31, 3) := by decide +kernel
theorem d_I_init_40 : decode b_I_init 40 = .ok (.aload_n 0, 1) := by decide +kernel
theorem d_I_init_41 : decode b_I_init 41 = .ok (.iconst (-1), 1) := by decide +kernel
theorem d_I_init_42 : decode b_I_init 42 = .ok (.putfield 34, 3) := by decide +kernel
theorem d_I_init_45 : decode b_I_init 45 = .ok (.aload_n 0, 1) := by decide +kernel
theorem d_I_init_46 : decode b_I_init 46 = .ok (.iconst 0, 1) := by decide +kernel
theorem d_I_init_47 : decode b_I_init 47 = .ok (.putfield 37, 3) := by decide +kernel
theorem d_I_init_50 : decode b_I_init 50 = .ok (.aload_n 0, 1) := by decide +kernel
theorem d_I_init_51 : decode b_I_init 51 = .ok (.iload_n 1, 1) := by decide +kernel
theorem d_I_init_52 : decode b_I_init 52 = .ok (.putfield 40, 3) := by decide +kernel
theorem d_I_init_55 : decode b_I_init 55 = .ok (.aload_n 0, 1) := by decide +kernel
theorem d_I_init_56 : decode b_I_init 56 = .ok (.iload_n 2, 1) := by decide +kernel
theorem d_I_init_57 : decode b_I_init 57 = .ok (.putfield 43, 3) := by decide +kernel
theorem d_I_init_60 : decode b_I_init 60 = .ok (.aload_n 0, 1) := by decide +kernel
theorem d_I_init_61 : decode b_I_init 61 = .ok (.iload_n 3, 1) := by decide +kernel
theorem d_I_init_62 : decode b_I_init 62 = .ok (.putfield 46, 3) := by decide +kernel
theorem d_I_init_65 : decode b_I_init 65 = .ok (.aload_n 0, 1) := by decide +kernel
theorem d_I_init_66 : decode b_I_init 66 = .ok (.iload 4, 2) := by decide +kernel
theorem d_I_init_68 : decode b_I_init 68 = .ok (.putfield 49, 3) := by decide +kernel
theorem d_I_init_71 : decode b_I_init 71 = .ok (.aload_n 0, 1) := by decide +kernel
theorem d_I_init_72 : decode b_I_init 72 = .ok (.iload 5, 2) := by decide +kernel
theorem d_I_init_74 : decode b_I_init 74 = .ok (.putfield 52, 3) := by decide +kernel
theorem d_I_init_77 : decode b_I_init 77 = .ok (.aload_n 0, 1) := by decide +kernel
theorem d_I_init_78 : decode b_I_init 78 = .ok (.iload 4, 2) := by decide +kernel
theorem d_I_init_80 : decode b_I_init 80 = .ok (.iconst (-1), 1) := by decide +kernel
theorem d_I_init_81 : decode b_I_init 81 = .ok (.if_icmp .ne 7, 3) := by decide +kernel
theorem d_I_init_84 : decode b_I_init 84 = .ok (.iconst 0, 1) := by decide +kernel
theorem d_I_init_85 : decode b_I_init 85 = .ok (.goto 4, 3) := by decide +kernel
theorem d_I_init_88 : decode b_I_init 88 = .ok (.iconst 1, 1) := by decide +kernel
theorem d_I_init_89 : decode b_I_init 89 = .ok (.putfield 56, 3) := by decide +kernel
theorem d_I_init_92 : decode b_I_init 92 = .ok (.return_, 1) := by decide +kernel
theorem d_G_init_0 : decode b_G_init 0 = .ok (.aload_n 0, 1) := by decide +kernel
theorem d_G_init_1 : decode b_G_init 1 = .ok (.invokespecial 3, 3) := by decide +kernel
theorem d_G_init_4 : decode b_G_init 4 = .ok (.aload_n 0, 1) := by decide +kernel
theorem d_G_init_5 : decode b_G_init 5 = .ok (.bipush 8, 2) := by decide +kernel
theorem d_G_init_7 : decode b_G_init 7 = .ok (.newarray .int, 2) := by decide +kernel
theorem d_G_init_9 : decode b_G_init 9 = .ok (.putfield 9, 3) := by decide +kernel
theorem d_G_init_12 : decode b_G_init 12 = .ok (.aload_n 0, 1) := by decide +kernel
theorem d_G_init_13 : decode b_G_init 13 = .ok (.bipush 8, 2) := by decide +kernel
theorem d_G_init_15 : decode b_G_init 15 = .ok (.newarray .int, 2) := by decide +kernel
theorem d_G_init_17 : decode b_G_init 17 = .ok (.putfield 15, 3) := by decide +kernel
theorem d_G_init_20 : decode b_G_init 20 = .ok (.aload_n 0, 1) := by decide +kernel
theorem d_G_init_21 : decode b_G_init 21 = .ok (.iconst 0, 1) := by decide +kernel
theorem d_G_init_22 : decode b_G_init 22 = .ok (.putfield 18, 3) := by decide +kernel
theorem d_G_init_25 : decode b_G_init 25 = .ok (.aload_n 0, 1) := by decide +kernel
theorem d_G_init_26 : decode b_G_init 26 = .ok (.iconst (-1), 1) := by decide +kernel
theorem d_G_init_27 : decode b_G_init 27 = .ok (.putfield 22, 3) := by decide +kernel
theorem d_G_init_30 : decode b_G_init 30 = .ok (.aload_n 0, 1) := by decide +kernel
theorem d_G_init_31 : decode b_G_init 31 = .ok (.iconst (-1), 1) := by decide +kernel
theorem d_G_init_32 : decode b_G_init 32 = .ok (.putfield 25, 3) := by decide +kernel
theorem d_G_init_35 : decode b_G_init 35 = .ok (.return_, 1) := by decide +kernel
theorem d_I_isAwaited_0 : decode b_I_isAwaited 0 = .ok (.aload_n 0, 1) := by decide +kernel
theorem d_I_isAwaited_1 : decode b_I_isAwaited 1 = .ok (.getfield 56, 3) := by decide +kernel
theorem d_I_isAwaited_4 : decode b_I_isAwaited 4 = .ok (.ifCond .eq 27, 3) := by decide +kernel
theorem d_I_isAwaited_7 : decode b_I_isAwaited 7 = .ok (.aload_n 0, 1) := by decide +kernel
theorem d_I_isAwaited_8 : decode b_I_isAwaited 8 = .ok (.getfield 56, 3) := by decide +kernel
theorem d_I_isAwaited_11 : decode b_I_isAwaited 11 = .ok (.iconst 1, 1) := by decide +kernel
theorem d_I_isAwaited_12 : decode b_I_isAwaited 12 = .ok (.if_icmp .eq 19, 3) := by decide +kernel
theorem d_I_isAwaited_15 : decode b_I_isAwaited 15 = .ok (.aload_n 0, 1) := by decide +kernel
theorem d_I_isAwaited_16 : decode b_I_isAwaited 16 = .ok (.getfield 56, 3) := by decide +kernel
theorem d_I_isAwaited_19 : decode b_I_isAwaited 19 = .ok (.iconst 2, 1) := by decide +kernel
theorem d_I_isAwaited_20 : decode b_I_isAwaited 20 = .ok (.if_icmp .eq 11, 3) := by decide +kernel
theorem d_I_isAwaited_23 : decode b_I_isAwaited 23 = .ok (.aload_n 0, 1) := by decide +kernel
theorem d_I_isAwaited_24 : decode b_I_isAwaited 24 = .ok (.getfield 56, 3) := by decide +kernel
theorem d_I_isAwaited_27 : decode b_I_isAwaited 27 = .ok (.iconst 4, 1) := by decide +kernel
theorem d_I_isAwaited_28 : decode b_I_isAwaited 28 = .ok (.if_icmp .ne 7, 3) := by decide +kernel
theorem d_I_isAwaited_31 : decode b_I_isAwaited 31 = .ok (.iconst 1, 1) := by decide +kernel
theorem d_I_isAwaited_32 : decode b_I_isAwaited 32 = .ok (.goto 4, 3) := by decide +kernel
theorem d_I_isAwaited_35 : decode b_I_isAwaited 35 = .ok (.iconst 0, 1) := by decide +kernel
theorem d_I_isAwaited_36 : decode b_I_isAwaited 36 = .ok (.ireturn, 1) := by decide +kernel
theorem d_P_add_0 : decode b_P_add 0 = .ok (.aload_n 0, 1) := by decide +kernel
theorem d_P_add_1 : decode b_P_add 1 = .ok (.getfield 9, 3) := by decide +kernel
theorem d_P_add_4 : decode b_P_add 4 = .ok (.aload_n 0, 1) := by decide +kernel
theorem d_P_add_5 : decode b_P_add 5 = .ok (.getfield 21, 3) := by decide +kernel
theorem d_P_add_8 : decode b_P_add 8 = .ok (.arraylength, 1) := by decide +kernel
theorem d_P_add_9 : decode b_P_add 9 = .ok (.if_icmp .ge 33, 3) := by decide +kernel
theorem d_P_add_12 : decode b_P_add 12 = .ok (.aload_n 0, 1) := by decide +kernel
theorem d_P_add_13 : decode b_P_add 13 = .ok (.getfield 21, 3) := by decide +kernel
theorem d_P_add_16 : decode b_P_add 16 = .ok (.aload_n 0, 1) := by decide +kernel
theorem d_P_add_17 : decode b_P_add 17 = .ok (.getfield 9, 3) := by decide +kernel
theorem d_P_add_20 : decode b_P_add 20 = .ok (.iload_n 1, 1) := by decide +kernel
theorem d_P_add_21 : decode b_P_add 21 = .ok (.iastore, 1) := by decide +kernel
theorem d_P_add_22 : decode b_P_add 22 = .ok (.aload_n 0, 1) := by decide +kernel
theorem d_P_add_23 : decode b_P_add 23 = .ok (.getfield 25, 3) := by decide +kernel
theorem d_P_add_26 : decode b_P_add 26 = .ok (.aload_n 0, 1) := by decide +kernel
theorem d_P_add_27 : decode b_P_add 27 = .ok (.getfield 9, 3) := by decide +kernel
theorem d_P_add_30 : decode b_P_add 30 = .ok (.iload_n 2, 1) := by decide +kernel
theorem d_P_add_31 : decode b_P_add 31 = .ok (.iastore, 1) := by decide +kernel
theorem d_P_add_32 : decode b_P_add 32 = .ok (.aload_n 0, 1) := by decide +kernel
theorem d_P_add_33 : decode b_P_add 33 = .ok (.dup, 1) := by decide +kernel
theorem d_P_add_34 : decode b_P_add 34 = .ok (.getfield 9, 3) := by decide +kernel
theorem d_P_add_37 : decode b_P_add 37 = .ok (.iconst 1, 1) := by decide +kernel
theorem d_P_add_38 : decode b_P_add 38 = .ok (.iadd, 1) := by decide +kernel
theorem d_P_add_39 : decode b_P_add 39 = .ok (.putfield 9, 3) := by decide +kernel
theorem d_P_add_42 : decode b_P_add 42 = .ok (.return_, 1) := by decide +kernel
theorem d_I_arrive_0 : decode b_I_arrive 0 = .ok (.aload_n 0, 1) := by decide +kernel
theorem d_I_arrive_1 : decode b_I_arrive 1 = .ok (.iconst 3, 1) := by decide +kernel
theorem d_I_arrive_2 : decode b_I_arrive 2 = .ok (.putfield 56, 3) := by decide +kernel
theorem d_I_arrive_5 : decode b_I_arrive 5 = .ok (.aload_n 0, 1) := by decide +kernel
theorem d_I_arrive_6 : decode b_I_arrive 6 = .ok (.iload_n 1, 1) := by decide +kernel
theorem d_I_arrive_7 : decode b_I_arrive 7 = .ok (.putfield 25, 3) := by decide +kernel
theorem d_I_arrive_10 : decode b_I_arrive 10 = .ok (.aload_n 0, 1) := by decide +kernel
theorem d_I_arrive_11 : decode b_I_arrive 11 = .ok (.iload_n 2, 1) := by decide +kernel
theorem d_I_arrive_12 : decode b_I_arrive 12 = .ok (.putfield 28, 3) := by decide +kernel
theorem d_I_arrive_15 : decode b_I_arrive 15 = .ok (.return_, 1) := by decide +kernel
theorem d_P_clear_0 : decode b_P_clear 0 = .ok (.aload_n 0, 1) := by decide +kernel
theorem d_P_clear_1 : decode b_P_clear 1 = .ok (.iconst 0, 1) := by decide +kernel
theorem d_P_clear_2 : decode b_P_clear 2 = .ok (.putfield 9, 3) := by decide +kernel
theorem d_P_clear_5 : decode b_P_clear 5 = .ok (.return_, 1) := by decide +kernel
theorem d_U_isDue_0 : decode b_U_isDue 0 = .ok (.aload_n 1, 1) := by decide +kernel
theorem d_U_isDue_1 : decode b_U_isDue 1 = .ok (.getfield 21, 3) := by decide +kernel
theorem d_U_isDue_4 : decode b_U_isDue 4 = .ok (.iconst 1, 1) := by decide +kernel
theorem d_U_isDue_5 : decode b_U_isDue 5 = .ok (.if_icmp .ne 22, 3) := by decide +kernel
theorem d_U_isDue_8 : decode b_U_isDue 8 = .ok (.iload_n 2, 1) := by decide +kernel
theorem d_U_isDue_9 : decode b_U_isDue 9 = .ok (.aload_n 1, 1) := by decide +kernel
theorem d_U_isDue_10 : decode b_U_isDue 10 = .ok (.getfield 26, 3) := by decide +kernel
theorem d_U_isDue_13 : decode b_U_isDue 13 = .ok (.isub, 1) := by decide +kernel
theorem d_U_isDue_14 : decode b_U_isDue 14 = .ok (.aload_n 0, 1) := by decide +kernel
theorem d_U_isDue_15 : decode b_U_isDue 15 = .ok (.getfield 9, 3) := by decide +kernel
theorem d_U_isDue_18 : decode b_U_isDue 18 = .ok (.if_icmp .lt 7, 3) := by decide +kernel
theorem d_U_isDue_21 : decode b_U_isDue 21 = .ok (.iconst 1, 1) := by decide +kernel
theorem d_U_isDue_22 : decode b_U_isDue 22 = .ok (.goto 4, 3) := by decide +kernel
theorem d_U_isDue_25 : decode b_U_isDue 25 = .ok (.iconst 0, 1) := by decide +kernel
theorem d_U_isDue_26 : decode b_U_isDue 26 = .ok (.ireturn, 1) := by decide +kernel
theorem d_U_isDue_27 : decode b_U_isDue 27 = .ok (.aload_n 1, 1) := by decide +kernel
theorem d_U_isDue_28 : decode b_U_isDue 28 = .ok (.getfield 21, 3) := by decide +kernel
theorem d_U_isDue_31 : decode b_U_isDue 31 = .ok (.iconst 2, 1) := by decide +kernel
theorem d_U_isDue_32 : decode b_U_isDue 32 = .ok (.if_icmp .ne 20, 3) := by decide +kernel
theorem d_U_isDue_35 : decode b_U_isDue 35 = .ok (.iload_n 2, 1) := by decide +kernel
theorem d_U_isDue_36 : decode b_U_isDue 36 = .ok (.aload_n 1, 1) := by decide +kernel
theorem d_U_isDue_37 : decode b_U_isDue 37 = .ok (.getfield 29, 3) := by decide +kernel
theorem d_U_isDue_40 : decode b_U_isDue 40 = .ok (.isub, 1) := by decide +kernel
theorem d_U_isDue_41 : decode b_U_isDue 41 = .ok (.aload_n 0, 1) := by decide +kernel
theorem d_U_isDue_42 : decode b_U_isDue 42 = .ok (.getfield 15, 3) := by decide +kernel
theorem d_U_isDue_45 : decode b_U_isDue 45 = .ok (.if_icmp .lt 7, 3) := by decide +kernel
theorem d_U_isDue_48 : decode b_U_isDue 48 = .ok (.iconst 1, 1) := by decide +kernel
theorem d_U_isDue_49 : decode b_U_isDue 49 = .ok (.goto 4, 3) := by decide +kernel
theorem d_U_isDue_52 : decode b_U_isDue 52 = .ok (.iconst 0, 1) := by decide +kernel
theorem d_U_isDue_53 : decode b_U_isDue 53 = .ok (.ireturn, 1) := by decide +kernel
theorem d_I_claimOn_0 : decode b_I_claimOn 0 = .ok (.aload_n 0, 1) := by decide +kernel
theorem d_I_claimOn_1 : decode b_I_claimOn 1 = .ok (.iconst 2, 1) := by decide +kernel
theorem d_I_claimOn_2 : decode b_I_claimOn 2 = .ok (.putfield 56, 3) := by decide +kernel
theorem d_I_claimOn_5 : decode b_I_claimOn 5 = .ok (.aload_n 0, 1) := by decide +kernel
theorem d_I_claimOn_6 : decode b_I_claimOn 6 = .ok (.dup, 1) := by decide +kernel
theorem d_I_claimOn_7 : decode b_I_claimOn 7 = .ok (.getfield 18, 3) := by decide +kernel
theorem d_I_claimOn_10 : decode b_I_claimOn 10 = .ok (.iconst 1, 1) := by decide +kernel
theorem d_I_claimOn_11 : decode b_I_claimOn 11 = .ok (.iadd, 1) := by decide +kernel
theorem d_I_claimOn_12 : decode b_I_claimOn 12 = .ok (.putfield 18, 3) := by decide +kernel
theorem d_I_claimOn_15 : decode b_I_claimOn 15 = .ok (.aload_n 0, 1) := by decide +kernel
theorem d_I_claimOn_16 : decode b_I_claimOn 16 = .ok (.iload_n 1, 1) := by decide +kernel
theorem d_I_claimOn_17 : decode b_I_claimOn 17 = .ok (.putfield 22, 3) := by decide +kernel
theorem d_I_claimOn_20 : decode b_I_claimOn 20 = .ok (.return_, 1) := by decide +kernel
theorem d_G_isStarted_0 : decode b_G_isStarted 0 = .ok (.aload_n 0, 1) := by decide +kernel
theorem d_G_isStarted_1 : decode b_G_isStarted 1 = .ok (.getfield 22, 3) := by decide +kernel
theorem d_G_isStarted_4 : decode b_G_isStarted 4 = .ok (.ifCond .lt 7, 3) := by decide +kernel
theorem d_G_isStarted_7 : decode b_G_isStarted 7 = .ok (.iconst 1, 1) := by decide +kernel
theorem d_G_isStarted_8 : decode b_G_isStarted 8 = .ok (.goto 4, 3) := by decide +kernel
theorem d_G_isStarted_11 : decode b_G_isStarted 11 = .ok (.iconst 0, 1) := by decide +kernel
theorem d_G_isStarted_12 : decode b_G_isStarted 12 = .ok (.ireturn, 1) := by decide +kernel
theorem d_G_isFull_0 : decode b_G_isFull 0 = .ok (.aload_n 0, 1) := by decide +kernel
theorem d_G_isFull_1 : decode b_G_isFull 1 = .ok (.getfield 18, 3) := by decide +kernel
theorem d_G_isFull_4 : decode b_G_isFull 4 = .ok (.bipush 8, 2) := by decide +kernel
theorem d_G_isFull_6 : decode b_G_isFull 6 = .ok (.if_icmp .lt 7, 3) := by decide +kernel
theorem d_G_isFull_9 : decode b_G_isFull 9 = .ok (.iconst 1, 1) := by decide +kernel
theorem d_G_isFull_10 : decode b_G_isFull 10 = .ok (.goto 4, 3) := by decide +kernel
theorem d_G_isFull_13 : decode b_G_isFull 13 = .ok (.iconst 0, 1) := by decide +kernel
theorem d_G_isFull_14 : decode b_G_isFull 14 = .ok (.ireturn, 1) := by decide +kernel
theorem d_G_add_0 : decode b_G_add 0 = .ok (.aload_n 0, 1) := by decide +kernel
theorem d_G_add_1 : decode b_G_add 1 = .ok (.invokevirtual 32, 3) := by decide +kernel
theorem d_G_add_4 : decode b_G_add 4 = .ok (.ifCond .ne 33, 3) := by decide +kernel
theorem d_G_add_7 : decode b_G_add 7 = .ok (.aload_n 0, 1) := by decide +kernel
theorem d_G_add_8 : decode b_G_add 8 = .ok (.getfield 9, 3) := by decide +kernel
theorem d_G_add_11 : decode b_G_add 11 = .ok (.aload_n 0, 1) := by decide +kernel
theorem d_G_add_12 : decode b_G_add 12 = .ok (.getfield 18, 3) := by decide +kernel
theorem d_G_add_15 : decode b_G_add 15 = .ok (.iload_n 1, 1) := by decide +kernel
theorem d_G_add_16 : decode b_G_add 16 = .ok (.iastore, 1) := by decide +kernel
theorem d_G_add_17 : decode b_G_add 17 = .ok (.aload_n 0, 1) := by decide +kernel
theorem d_G_add_18 : decode b_G_add 18 = .ok (.getfield 15, 3) := by decide +kernel
theorem d_G_add_21 : decode b_G_add 21 = .ok (.aload_n 0, 1) := by decide +kernel
theorem d_G_add_22 : decode b_G_add 22 = .ok (.getfield 18, 3) := by decide +kernel
theorem d_G_add_25 : decode b_G_add 25 = .ok (.iload_n 2, 1) := by decide +kernel
theorem d_G_add_26 : decode b_G_add 26 = .ok (.iastore, 1) := by decide +kernel
theorem d_G_add_27 : decode b_G_add 27 = .ok (.aload_n 0, 1) := by decide +kernel
theorem d_G_add_28 : decode b_G_add 28 = .ok (.dup, 1) := by decide +kernel
theorem d_G_add_29 : decode b_G_add 29 = .ok (.getfield 18, 3) := by decide +kernel
theorem d_G_add_32 : decode b_G_add 32 = .ok (.iconst 1, 1) := by decide +kernel
theorem d_G_add_33 : decode b_G_add 33 = .ok (.iadd, 1) := by decide +kernel
theorem d_G_add_34 : decode b_G_add 34 = .ok (.putfield 18, 3) := by decide +kernel
theorem d_G_add_37 : decode b_G_add 37 = .ok (.return_, 1) := by decide +kernel
theorem d_G_passOn_0 : decode b_G_passOn 0 = .ok (.aload_n 0, 1) := by decide +kernel
theorem d_G_passOn_1 : decode b_G_passOn 1 = .ok (.getfield 22, 3) := by decide +kernel
theorem d_G_passOn_4 : decode b_G_passOn 4 = .ok (.aload_n 0, 1) := by decide +kernel
theorem d_G_passOn_5 : decode b_G_passOn 5 = .ok (.getfield 18, 3) := by decide +kernel
theorem d_G_passOn_8 : decode b_G_passOn 8 = .ok (.if_icmp .ge 18, 3) := by decide +kernel
theorem d_G_passOn_11 : decode b_G_passOn 11 = .ok (.aload_n 0, 1) := by decide +kernel
theorem d_G_passOn_12 : decode b_G_passOn 12 = .ok (.dup, 1) := by decide +kernel
theorem d_G_passOn_13 : decode b_G_passOn 13 = .ok (.getfield 22, 3) := by decide +kernel
theorem d_G_passOn_16 : decode b_G_passOn 16 = .ok (.iconst 1, 1) := by decide +kernel
theorem d_G_passOn_17 : decode b_G_passOn 17 = .ok (.iadd, 1) := by decide +kernel
theorem d_G_passOn_18 : decode b_G_passOn 18 = .ok (.putfield 22, 3) := by decide +kernel
theorem d_G_passOn_21 : decode b_G_passOn 21 = .ok (.aload_n 0, 1) := by decide +kernel
theorem d_G_passOn_22 : decode b_G_passOn 22 = .ok (.iload_n 1, 1) := by decide +kernel
theorem d_G_passOn_23 : decode b_G_passOn 23 = .ok (.putfield 25, 3) := by decide +kernel
theorem d_G_passOn_26 : decode b_G_passOn 26 = .ok (.return_, 1) := by decide +kernel
theorem d_G_holder_0 : decode b_G_holder 0 = .ok (.aload_n 0, 1) := by decide +kernel
theorem d_G_holder_1 : decode b_G_holder 1 = .ok (.invokevirtual 28, 3) := by decide +kernel
theorem d_G_holder_4 : decode b_G_holder 4 = .ok (.ifCond .eq 15, 3) := by decide +kernel
theorem d_G_holder_7 : decode b_G_holder 7 = .ok (.aload_n 0, 1) := by decide +kernel
theorem d_G_holder_8 : decode b_G_holder 8 = .ok (.getfield 9, 3) := by decide +kernel
theorem d_G_holder_11 : decode b_G_holder 11 = .ok (.aload_n 0, 1) := by decide +kernel
theorem d_G_holder_12 : decode b_G_holder 12 = .ok (.getfield 22, 3) := by decide +kernel
theorem d_G_holder_15 : decode b_G_holder 15 = .ok (.iaload, 1) := by decide +kernel
theorem d_G_holder_16 : decode b_G_holder 16 = .ok (.goto 4, 3) := by decide +kernel
theorem d_G_holder_19 : decode b_G_holder 19 = .ok (.iconst (-1), 1) := by decide +kernel
theorem d_G_holder_20 : decode b_G_holder 20 = .ok (.ireturn, 1) := by decide +kernel
theorem d_G_isOut_0 : decode b_G_isOut 0 = .ok (.aload_n 0, 1) := by decide +kernel
theorem d_G_isOut_1 : decode b_G_isOut 1 = .ok (.getfield 22, 3) := by decide +kernel
theorem d_G_isOut_4 : decode b_G_isOut 4 = .ok (.ifCond .lt 18, 3) := by decide +kernel
theorem d_G_isOut_7 : decode b_G_isOut 7 = .ok (.aload_n 0, 1) := by decide +kernel
theorem d_G_isOut_8 : decode b_G_isOut 8 = .ok (.getfield 22, 3) := by decide +kernel
theorem d_G_isOut_11 : decode b_G_isOut 11 = .ok (.aload_n 0, 1) := by decide +kernel
theorem d_G_isOut_12 : decode b_G_isOut 12 = .ok (.getfield 18, 3) := by decide +kernel
theorem d_G_isOut_15 : decode b_G_isOut 15 = .ok (.if_icmp .ge 7, 3) := by decide +kernel
theorem d_G_isOut_18 : decode b_G_isOut 18 = .ok (.iconst 1, 1) := by decide +kernel
theorem d_G_isOut_19 : decode b_G_isOut 19 = .ok (.goto 4, 3) := by decide +kernel
theorem d_G_isOut_22 : decode b_G_isOut 22 = .ok (.iconst 0, 1) := by decide +kernel
theorem d_G_isOut_23 : decode b_G_isOut 23 = .ok (.ireturn, 1) := by decide +kernel
theorem d_G_isLate_0 : decode b_G_isLate 0 = .ok (.aload_n 0, 1) := by decide +kernel
theorem d_G_isLate_1 : decode b_G_isLate 1 = .ok (.invokevirtual 28, 3) := by decide +kernel
theorem d_G_isLate_4 : decode b_G_isLate 4 = .ok (.ifCond .eq 25, 3) := by decide +kernel
theorem d_G_isLate_7 : decode b_G_isLate 7 = .ok (.iload_n 1, 1) := by decide +kernel
theorem d_G_isLate_8 : decode b_G_isLate 8 = .ok (.aload_n 0, 1) := by decide +kernel
theorem d_G_isLate_9 : decode b_G_isLate 9 = .ok (.getfield 25, 3) := by decide +kernel
theorem d_G_isLate_12 : decode b_G_isLate 12 = .ok (.isub, 1) := by decide +kernel
theorem d_G_isLate_13 : decode b_G_isLate 13 = .ok (.aload_n 0, 1) := by decide +kernel
theorem d_G_isLate_14 : decode b_G_isLate 14 = .ok (.getfield 15, 3) := by decide +kernel
theorem d_G_isLate_17 : decode b_G_isLate 17 = .ok (.aload_n 0, 1) := by decide +kernel
theorem d_G_isLate_18 : decode b_G_isLate 18 = .ok (.getfield 22, 3) := by decide +kernel
theorem d_G_isLate_21 : decode b_G_isLate 21 = .ok (.iaload, 1) := by decide +kernel
theorem d_G_isLate_22 : decode b_G_isLate 22 = .ok (.if_icmp .le 7, 3) := by decide +kernel
theorem d_G_isLate_25 : decode b_G_isLate 25 = .ok (.iconst 1, 1) := by decide +kernel
theorem d_G_isLate_26 : decode b_G_isLate 26 = .ok (.goto 4, 3) := by decide +kernel
theorem d_G_isLate_29 : decode b_G_isLate 29 = .ok (.iconst 0, 1) := by decide +kernel
theorem d_G_isLate_30 : decode b_G_isLate 30 = .ok (.ireturn, 1) := by decide +kernel
theorem d_I_isReplaceable_0 : decode b_I_isReplaceable 0 = .ok (.aload_n 0, 1) := by decide +kernel
theorem d_I_isReplaceable_1 : decode b_I_isReplaceable 1 = .ok (.getfield 56, 3) := by decide +kernel
theorem d_I_isReplaceable_4 : decode b_I_isReplaceable 4 = .ok (.iconst 3, 1) := by decide +kernel
theorem d_I_isReplaceable_5 : decode b_I_isReplaceable 5 = .ok (.if_icmp .eq 11, 3) := by decide +kernel
theorem d_I_isReplaceable_8 : decode b_I_isReplaceable 8 = .ok (.aload_n 0, 1) := by decide +kernel
theorem d_I_isReplaceable_9 : decode b_I_isReplaceable 9 = .ok (.getfield 56, 3) := by decide +kernel
theorem d_I_isReplaceable_12 : decode b_I_isReplaceable 12 = .ok (.iconst 4, 1) := by decide +kernel
theorem d_I_isReplaceable_13 : decode b_I_isReplaceable 13 = .ok (.if_icmp .ne 17, 3) := by decide +kernel
theorem d_I_isReplaceable_16 : decode b_I_isReplaceable 16 = .ok (.aload_n 0, 1) := by decide +kernel
theorem d_I_isReplaceable_17 : decode b_I_isReplaceable 17 = .ok (.getfield 12, 3) := by decide +kernel
theorem d_I_isReplaceable_20 : decode b_I_isReplaceable 20 = .ok (.invokevirtual 59, 3) := by decide +kernel
theorem d_I_isReplaceable_23 : decode b_I_isReplaceable 23 = .ok (.ifCond .ne 7, 3) := by decide +kernel
theorem d_I_isReplaceable_26 : decode b_I_isReplaceable 26 = .ok (.iconst 1, 1) := by decide +kernel
theorem d_I_isReplaceable_27 : decode b_I_isReplaceable 27 = .ok (.goto 4, 3) := by decide +kernel
theorem d_I_isReplaceable_30 : decode b_I_isReplaceable 30 = .ok (.iconst 0, 1) := by decide +kernel
theorem d_I_isReplaceable_31 : decode b_I_isReplaceable 31 = .ok (.ireturn, 1) := by decide +kernel
theorem d_V_isFull_0 : decode b_V_isFull 0 = .ok (.aload_n 0, 1) := by decide +kernel
theorem d_V_isFull_1 : decode b_V_isFull 1 = .ok (.getfield 18, 3) := by decide +kernel
theorem d_V_isFull_4 : decode b_V_isFull 4 = .ok (.bipush 40, 2) := by decide +kernel
theorem d_V_isFull_6 : decode b_V_isFull 6 = .ok (.if_icmp .lt 7, 3) := by decide +kernel
theorem d_V_isFull_9 : decode b_V_isFull 9 = .ok (.iconst 1, 1) := by decide +kernel
theorem d_V_isFull_10 : decode b_V_isFull 10 = .ok (.goto 4, 3) := by decide +kernel
theorem d_V_isFull_13 : decode b_V_isFull 13 = .ok (.iconst 0, 1) := by decide +kernel
