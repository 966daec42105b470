theorem d_M_checkIn_41 : decode b_M_checkIn 41 = .ok (.istore 4, 2) := by decide +kernel
theorem d_M_checkIn_43 : decode b_M_checkIn 43 = .ok (.iload 4, 2) := by decide +kernel
theorem d_M_checkIn_45 : decode b_M_checkIn 45 = .ok (.ifCond .eq 24, 3) := by decide +kernel
theorem d_M_checkIn_48 : decode b_M_checkIn 48 = .ok (.iload 4, 2) := by decide +kernel
theorem d_M_checkIn_50 : decode b_M_checkIn 50 = .ok (.iconst 1, 1) := by decide +kernel
theorem d_M_checkIn_51 : decode b_M_checkIn 51 = .ok (.if_icmp .eq 18, 3) := by decide +kernel
theorem d_M_checkIn_54 : decode b_M_checkIn 54 = .ok (.iload 4, 2) := by decide +kernel
theorem d_M_checkIn_56 : decode b_M_checkIn 56 = .ok (.iconst 2, 1) := by decide +kernel
theorem d_M_checkIn_57 : decode b_M_checkIn 57 = .ok (.if_icmp .eq 12, 3) := by decide +kernel
theorem d_M_checkIn_60 : decode b_M_checkIn 60 = .ok (.iload 4, 2) := by decide +kernel
theorem d_M_checkIn_62 : decode b_M_checkIn 62 = .ok (.iconst 4, 1) := by decide +kernel
theorem d_M_checkIn_63 : decode b_M_checkIn 63 = .ok (.if_icmp .eq 6, 3) := by decide +kernel
theorem d_M_checkIn_66 : decode b_M_checkIn 66 = .ok (.bipush (-3), 2) := by decide +kernel
theorem d_M_checkIn_68 : decode b_M_checkIn 68 = .ok (.ireturn, 1) := by decide +kernel
theorem d_M_checkIn_69 : decode b_M_checkIn 69 = .ok (.aload_n 0, 1) := by decide +kernel
theorem d_M_checkIn_70 : decode b_M_checkIn 70 = .ok (.getfield 25, 3) := by decide +kernel
theorem d_M_checkIn_73 : decode b_M_checkIn 73 = .ok (.iload_n 1, 1) := by decide +kernel
theorem d_M_checkIn_74 : decode b_M_checkIn 74 = .ok (.iconst 3, 1) := by decide +kernel
theorem d_M_checkIn_75 : decode b_M_checkIn 75 = .ok (.iastore, 1) := by decide +kernel
theorem d_M_checkIn_76 : decode b_M_checkIn 76 = .ok (.aload_n 0, 1) := by decide +kernel
theorem d_M_checkIn_77 : decode b_M_checkIn 77 = .ok (.getfield 37, 3) := by decide +kernel
theorem d_M_checkIn_80 : decode b_M_checkIn 80 = .ok (.iload_n 1, 1) := by decide +kernel
theorem d_M_checkIn_81 : decode b_M_checkIn 81 = .ok (.iload_n 2, 1) := by decide +kernel
theorem d_M_checkIn_82 : decode b_M_checkIn 82 = .ok (.iastore, 1) := by decide +kernel
theorem d_M_checkIn_83 : decode b_M_checkIn 83 = .ok (.aload_n 0, 1) := by decide +kernel
theorem d_M_checkIn_84 : decode b_M_checkIn 84 = .ok (.getfield 40, 3) := by decide +kernel
theorem d_M_checkIn_87 : decode b_M_checkIn 87 = .ok (.iload_n 1, 1) := by decide +kernel
theorem d_M_checkIn_88 : decode b_M_checkIn 88 = .ok (.iload_n 3, 1) := by decide +kernel
theorem d_M_checkIn_89 : decode b_M_checkIn 89 = .ok (.iastore, 1) := by decide +kernel
theorem d_M_checkIn_90 : decode b_M_checkIn 90 = .ok (.iload 4, 2) := by decide +kernel
theorem d_M_checkIn_92 : decode b_M_checkIn 92 = .ok (.ifCond .ne 12, 3) := by decide +kernel
theorem d_M_checkIn_95 : decode b_M_checkIn 95 = .ok (.aload_n 0, 1) := by decide +kernel
theorem d_M_checkIn_96 : decode b_M_checkIn 96 = .ok (.iconst 1, 1) := by decide +kernel
theorem d_M_checkIn_97 : decode b_M_checkIn 97 = .ok (.iload_n 1, 1) := by decide +kernel
theorem d_M_checkIn_98 : decode b_M_checkIn 98 = .ok (.invokevirtual 118, 3) := by decide +kernel
theorem d_M_checkIn_101 : decode b_M_checkIn 101 = .ok (.goto 25, 3) := by decide +kernel
theorem d_M_checkIn_104 : decode b_M_checkIn 104 = .ok (.iload 4, 2) := by decide +kernel
theorem d_M_checkIn_106 : decode b_M_checkIn 106 = .ok (.iconst 4, 1) := by decide +kernel
theorem d_M_checkIn_107 : decode b_M_checkIn 107 = .ok (.if_icmp .eq 13, 3) := by decide +kernel
theorem d_M_checkIn_110 : decode b_M_checkIn 110 = .ok (.iload_n 3, 1) := by decide +kernel
theorem d_M_checkIn_111 : decode b_M_checkIn 111 = .ok (.aload_n 0, 1) := by decide +kernel
theorem d_M_checkIn_112 : decode b_M_checkIn 112 = .ok (.getfield 28, 3) := by decide +kernel
theorem d_M_checkIn_115 : decode b_M_checkIn 115 = .ok (.iload_n 1, 1) := by decide +kernel
theorem d_M_checkIn_116 : decode b_M_checkIn 116 = .ok (.iaload, 1) := by decide +kernel
theorem d_M_checkIn_117 : decode b_M_checkIn 117 = .ok (.if_icmp .le 9, 3) := by decide +kernel
theorem d_M_checkIn_120 : decode b_M_checkIn 120 = .ok (.aload_n 0, 1) := by decide +kernel
theorem d_M_checkIn_121 : decode b_M_checkIn 121 = .ok (.iconst 2, 1) := by decide +kernel
theorem d_M_checkIn_122 : decode b_M_checkIn 122 = .ok (.iload_n 1, 1) := by decide +kernel
theorem d_M_checkIn_123 : decode b_M_checkIn 123 = .ok (.invokevirtual 118, 3) := by decide +kernel
theorem d_M_checkIn_126 : decode b_M_checkIn 126 = .ok (.iload 4, 2) := by decide +kernel
theorem d_M_checkIn_128 : decode b_M_checkIn 128 = .ok (.ifCond .ne 7, 3) := by decide +kernel
theorem d_M_checkIn_131 : decode b_M_checkIn 131 = .ok (.iconst 0, 1) := by decide +kernel
theorem d_M_checkIn_132 : decode b_M_checkIn 132 = .ok (.goto 4, 3) := by decide +kernel
theorem d_M_checkIn_135 : decode b_M_checkIn 135 = .ok (.iconst 1, 1) := by decide +kernel
theorem d_M_checkIn_136 : decode b_M_checkIn 136 = .ok (.ireturn, 1) := by decide +kernel
theorem d_M_isIssue_0 : decode b_M_isIssue 0 = .ok (.iload_n 1, 1) := by decide +kernel
theorem d_M_isIssue_1 : decode b_M_isIssue 1 = .ok (.iconst 0, 1) := by decide +kernel
theorem d_M_isIssue_2 : decode b_M_isIssue 2 = .ok (.aload_n 0, 1) := by decide +kernel
theorem d_M_isIssue_3 : decode b_M_isIssue 3 = .ok (.getfield 101, 3) := by decide +kernel
theorem d_M_isIssue_6 : decode b_M_isIssue 6 = .ok (.iconst 1, 1) := by decide +kernel
theorem d_M_isIssue_7 : decode b_M_isIssue 7 = .ok (.isub, 1) := by decide +kernel
theorem d_M_isIssue_8 : decode b_M_isIssue 8 = .ok (.invokestatic 97, 3) := by decide +kernel
theorem d_M_isIssue_11 : decode b_M_isIssue 11 = .ok (.ireturn, 1) := by decide +kernel
theorem d_M_tell_0 : decode b_M_tell 0 = .ok (.aload_n 0, 1) := by decide +kernel
theorem d_M_tell_1 : decode b_M_tell 1 = .ok (.getfield 104, 3) := by decide +kernel
theorem d_M_tell_4 : decode b_M_tell 4 = .ok (.bipush 100, 2) := by decide +kernel
theorem d_M_tell_6 : decode b_M_tell 6 = .ok (.if_icmp .ne 4, 3) := by decide +kernel
theorem d_M_tell_9 : decode b_M_tell 9 = .ok (.return_, 1) := by decide +kernel
theorem d_M_tell_10 : decode b_M_tell 10 = .ok (.aload_n 0, 1) := by decide +kernel
theorem d_M_tell_11 : decode b_M_tell 11 = .ok (.getfield 86, 3) := by decide +kernel
theorem d_M_tell_14 : decode b_M_tell 14 = .ok (.aload_n 0, 1) := by decide +kernel
theorem d_M_tell_15 : decode b_M_tell 15 = .ok (.getfield 104, 3) := by decide +kernel
theorem d_M_tell_18 : decode b_M_tell 18 = .ok (.iload_n 1, 1) := by decide +kernel
theorem d_M_tell_19 : decode b_M_tell 19 = .ok (.iastore, 1) := by decide +kernel
theorem d_M_tell_20 : decode b_M_tell 20 = .ok (.aload_n 0, 1) := by decide +kernel
theorem d_M_tell_21 : decode b_M_tell 21 = .ok (.getfield 89, 3) := by decide +kernel
theorem d_M_tell_24 : decode b_M_tell 24 = .ok (.aload_n 0, 1) := by decide +kernel
theorem d_M_tell_25 : decode b_M_tell 25 = .ok (.getfield 104, 3) := by decide +kernel
theorem d_M_tell_28 : decode b_M_tell 28 = .ok (.iload_n 2, 1) := by decide +kernel
theorem d_M_tell_29 : decode b_M_tell 29 = .ok (.iastore, 1) := by decide +kernel
theorem d_M_tell_30 : decode b_M_tell 30 = .ok (.aload_n 0, 1) := by decide +kernel
theorem d_M_tell_31 : decode b_M_tell 31 = .ok (.dup, 1) := by decide +kernel
theorem d_M_tell_32 : decode b_M_tell 32 = .ok (.getfield 104, 3) := by decide +kernel
theorem d_M_tell_35 : decode b_M_tell 35 = .ok (.iconst 1, 1) := by decide +kernel
theorem d_M_tell_36 : decode b_M_tell 36 = .ok (.iadd, 1) := by decide +kernel
theorem d_M_tell_37 : decode b_M_tell 37 = .ok (.putfield 104, 3) := by decide +kernel
theorem d_M_tell_40 : decode b_M_tell 40 = .ok (.return_, 1) := by decide +kernel
theorem d_M_claim_0 : decode b_M_claim 0 = .ok (.aload_n 0, 1) := by decide +kernel
theorem d_M_claim_1 : decode b_M_claim 1 = .ok (.iconst 0, 1) := by decide +kernel
theorem d_M_claim_2 : decode b_M_claim 2 = .ok (.putfield 92, 3) := by decide +kernel
theorem d_M_claim_5 : decode b_M_claim 5 = .ok (.iload_n 1, 1) := by decide +kernel
theorem d_M_claim_6 : decode b_M_claim 6 = .ok (.invokestatic 107, 3) := by decide +kernel
theorem d_M_claim_9 : decode b_M_claim 9 = .ok (.ifCond .ne 6, 3) := by decide +kernel
theorem d_M_claim_12 : decode b_M_claim 12 = .ok (.bipush (-2), 2) := by decide +kernel
theorem d_M_claim_14 : decode b_M_claim 14 = .ok (.ireturn, 1) := by decide +kernel
theorem d_M_claim_15 : decode b_M_claim 15 = .ok (.aload_n 0, 1) := by decide +kernel
theorem d_M_claim_16 : decode b_M_claim 16 = .ok (.iconst 0, 1) := by decide +kernel
theorem d_M_claim_17 : decode b_M_claim 17 = .ok (.putfield 122, 3) := by decide +kernel
theorem d_M_claim_20 : decode b_M_claim 20 = .ok (.iconst 0, 1) := by decide +kernel
theorem d_M_claim_21 : decode b_M_claim 21 = .ok (.istore_n 2, 1) := by decide +kernel
theorem d_M_claim_22 : decode b_M_claim 22 = .ok (.iload_n 2, 1) := by decide +kernel
theorem d_M_claim_23 : decode b_M_claim 23 = .ok (.aload_n 0, 1) := by decide +kernel
theorem d_M_claim_24 : decode b_M_claim 24 = .ok (.getfield 101, 3) := by decide +kernel
theorem d_M_claim_27 : decode b_M_claim 27 = .ok (.if_icmp .ge 15, 3) := by decide +kernel
theorem d_M_claim_30 : decode b_M_claim 30 = .ok (.aload_n 0, 1) := by decide +kernel
theorem d_M_claim_31 : decode b_M_claim 31 = .ok (.iload_n 2, 1) := by decide +kernel
theorem d_M_claim_32 : decode b_M_claim 32 = .ok (.iload_n 1, 1) := by decide +kernel
theorem d_M_claim_33 : decode b_M_claim 33 = .ok (.invokevirtual 125, 3) := by decide +kernel
theorem d_M_claim_36 : decode b_M_claim 36 = .ok (.iinc 2 1, 3) := by decide +kernel
theorem d_M_claim_39 : decode b_M_claim 39 = .ok (.goto (-17), 3) := by decide +kernel
theorem d_M_claim_42 : decode b_M_claim 42 = .ok (.aload_n 0, 1) := by decide +kernel
theorem d_M_claim_43 : decode b_M_claim 43 = .ok (.getfield 122, 3) := by decide +kernel
theorem d_M_claim_46 : decode b_M_claim 46 = .ok (.ireturn, 1) := by decide +kernel
theorem d_M_askFor_0 : decode b_M_askFor 0 = .ok (.aload_n 0, 1) := by decide +kernel
theorem d_M_askFor_1 : decode b_M_askFor 1 = .ok (.getfield 19, 3) := by decide +kernel
theorem d_M_askFor_4 : decode b_M_askFor 4 = .ok (.iload_n 1, 1) := by decide +kernel
theorem d_M_askFor_5 : decode b_M_askFor 5 = .ok (.iaload, 1) := by decide +kernel
theorem d_M_askFor_6 : decode b_M_askFor 6 = .ok (.istore_n 3, 1) := by decide +kernel
theorem d_M_askFor_7 : decode b_M_askFor 7 = .ok (.aload_n 0, 1) := by decide +kernel
theorem d_M_askFor_8 : decode b_M_askFor 8 = .ok (.getfield 25, 3) := by decide +kernel
theorem d_M_askFor_11 : decode b_M_askFor 11 = .ok (.iload_n 1, 1) := by decide +kernel
theorem d_M_askFor_12 : decode b_M_askFor 12 = .ok (.iaload, 1) := by decide +kernel
theorem d_M_askFor_13 : decode b_M_askFor 13 = .ok (.iconst 1, 1) := by decide +kernel
theorem d_M_askFor_14 : decode b_M_askFor 14 = .ok (.if_icmp .ne 28, 3) := by decide +kernel
theorem d_M_askFor_17 : decode b_M_askFor 17 = .ok (.iload_n 2, 1) := by decide +kernel
theorem d_M_askFor_18 : decode b_M_askFor 18 = .ok (.aload_n 0, 1) := by decide +kernel
theorem d_M_askFor_19 : decode b_M_askFor 19 = .ok (.getfield 28, 3) := by decide +kernel
theorem d_M_askFor_22 : decode b_M_askFor 22 = .ok (.iload_n 1, 1) := by decide +kernel
theorem d_M_askFor_23 : decode b_M_askFor 23 = .ok (.iaload, 1) := by decide +kernel
theorem d_M_askFor_24 : decode b_M_askFor 24 = .ok (.isub, 1) := by decide +kernel
theorem d_M_askFor_25 : decode b_M_askFor 25 = .ok (.aload_n 0, 1) := by decide +kernel
theorem d_M_askFor_26 : decode b_M_askFor 26 = .ok (.getfield 7, 3) := by decide +kernel
theorem d_M_askFor_29 : decode b_M_askFor 29 = .ok (.iload_n 3, 1) := by decide +kernel
theorem d_M_askFor_30 : decode b_M_askFor 30 = .ok (.iaload, 1) := by decide +kernel
theorem d_M_askFor_31 : decode b_M_askFor 31 = .ok (.if_icmp .lt 7, 3) := by decide +kernel
theorem d_M_askFor_34 : decode b_M_askFor 34 = .ok (.iconst 1, 1) := by decide +kernel
theorem d_M_askFor_35 : decode b_M_askFor 35 = .ok (.goto 39, 3) := by decide +kernel
theorem d_M_askFor_38 : decode b_M_askFor 38 = .ok (.iconst 0, 1) := by decide +kernel
theorem d_M_askFor_39 : decode b_M_askFor 39 = .ok (.goto 35, 3) := by decide +kernel
theorem d_M_askFor_42 : decode b_M_askFor 42 = .ok (.aload_n 0, 1) := by decide +kernel
theorem d_M_askFor_43 : decode b_M_askFor 43 = .ok (.getfield 25, 3) := by decide +kernel
theorem d_M_askFor_46 : decode b_M_askFor 46 = .ok (.iload_n 1, 1) := by decide +kernel
theorem d_M_askFor_47 : decode b_M_askFor 47 = .ok (.iaload, 1) := by decide +kernel
theorem d_M_askFor_48 : decode b_M_askFor 48 = .ok (.iconst 2, 1) := by decide +kernel
theorem d_M_askFor_49 : decode b_M_askFor 49 = .ok (.if_icmp .ne 24, 3) := by decide +kernel
theorem d_M_askFor_52 : decode b_M_askFor 52 = .ok (.iload_n 2, 1) := by decide +kernel
theorem d_M_askFor_53 : decode b_M_askFor 53 = .ok (.aload_n 0, 1) := by decide +kernel
theorem d_M_askFor_54 : decode b_M_askFor 54 = .ok (.getfield 34, 3) := by decide +kernel
theorem d_M_askFor_57 : decode b_M_askFor 57 = .ok (.iload_n 1, 1) := by decide +kernel
theorem d_M_askFor_58 : decode b_M_askFor 58 = .ok (.iaload, 1) := by decide +kernel
theorem d_M_askFor_59 : decode b_M_askFor 59 = .ok (.isub, 1) := by decide +kernel
theorem d_M_askFor_60 : decode b_M_askFor 60 = .ok (.aload_n 0, 1) := by decide +kernel
theorem d_M_askFor_61 : decode b_M_askFor 61 = .ok (.getfield 13, 3) := by decide +kernel
theorem d_M_askFor_64 : decode b_M_askFor 64 = .ok (.iload_n 3, 1) := by decide +kernel
theorem d_M_askFor_65 : decode b_M_askFor 65 = .ok (.iaload, 1) := by decide +kernel
theorem d_M_askFor_66 : decode b_M_askFor 66 = .ok (.if_icmp .lt 7, 3) := by decide +kernel
theorem d_M_askFor_69 : decode b_M_askFor 69 = .ok (.iconst 1, 1) := by decide +kernel
theorem d_M_askFor_70 : decode b_M_askFor 70 = .ok (.goto 4, 3) := by decide +kernel
theorem d_M_askFor_73 : decode b_M_askFor 73 = .ok (.iconst 0, 1) := by decide +kernel
theorem d_M_askFor_74 : decode b_M_askFor 74 = .ok (.istore 4, 2) := by decide +kernel
theorem d_M_askFor_76 : decode b_M_askFor 76 = .ok (.iload 4, 2) := by decide +kernel
theorem d_M_askFor_78 : decode b_M_askFor 78 = .ok (.ifCond .ne 4, 3) := by decide +kernel
theorem d_M_askFor_81 : decode b_M_askFor 81 = .ok (.return_, 1) := by decide +kernel
theorem d_M_askFor_82 : decode b_M_askFor 82 = .ok (.aload_n 0, 1) := by decide +kernel
theorem d_M_askFor_83 : decode b_M_askFor 83 = .ok (.getfield 31, 3) := by decide +kernel
theorem d_M_askFor_86 : decode b_M_askFor 86 = .ok (.iload_n 1, 1) := by decide +kernel
theorem d_M_askFor_87 : decode b_M_askFor 87 = .ok (.iaload, 1) := by decide +kernel
theorem d_M_askFor_88 : decode b_M_askFor 88 = .ok (.aload_n 0, 1) := by decide +kernel
theorem d_M_askFor_89 : decode b_M_askFor 89 = .ok (.getfield 16, 3) := by decide +kernel
theorem d_M_askFor_92 : decode b_M_askFor 92 = .ok (.iload_n 3, 1) := by decide +kernel
theorem d_M_askFor_93 : decode b_M_askFor 93 = .ok (.iaload, 1) := by decide +kernel
theorem d_M_askFor_94 : decode b_M_askFor 94 = .ok (.if_icmp .lt 17, 3) := by decide +kernel
theorem d_M_askFor_97 : decode b_M_askFor 97 = .ok (.aload_n 0, 1) := by decide +kernel
theorem d_M_askFor_98 : decode b_M_askFor 98 = .ok (.getfield 25, 3) := by decide +kernel
theorem d_M_askFor_101 : decode b_M_askFor 101 = .ok (.iload_n 1, 1) := by decide +kernel
theorem d_M_askFor_102 : decode b_M_askFor 102 = .ok (.iconst 4, 1) := by decide +kernel
theorem d_M_askFor_103 : decode b_M_askFor 103 = .ok (.iastore, 1) := by decide +kernel
theorem d_M_askFor_104 : decode b_M_askFor 104 = .ok (.aload_n 0, 1) := by decide +kernel
theorem d_M_askFor_105 : decode b_M_askFor 105 = .ok (.iconst 3, 1) := by decide +kernel
theorem d_M_askFor_106 : decode b_M_askFor 106 = .ok (.iload_n 1, 1) := by decide +kernel
theorem d_M_askFor_107 : decode b_M_askFor 107 = .ok (.invokevirtual 118, 3) := by decide +kernel
theorem d_M_askFor_110 : decode b_M_askFor 110 = .ok (.return_, 1) := by decide +kernel
theorem d_M_askFor_111 : decode b_M_askFor 111 = .ok (.aload_n 0, 1) := by decide +kernel
theorem d_M_askFor_112 : decode b_M_askFor 112 = .ok (.getfield 25, 3) := by decide +kernel
theorem d_M_askFor_115 : decode b_M_askFor 115 = .ok (.iload_n 1, 1) := by decide +kernel
theorem d_M_askFor_116 : decode b_M_askFor 116 = .ok (.iconst 2, 1) := by decide +kernel
theorem d_M_askFor_117 : decode b_M_askFor 117 = .ok (.iastore, 1) := by decide +kernel
theorem d_M_askFor_118 : decode b_M_askFor 118 = .ok (.aload_n 0, 1) := by decide +kernel
theorem d_M_askFor_119 : decode b_M_askFor 119 = .ok (.getfield 31, 3) := by decide +kernel
theorem d_M_askFor_122 : decode b_M_askFor 122 = .ok (.iload_n 1, 1) := by decide +kernel
theorem d_M_askFor_123 : decode b_M_askFor 123 = .ok (.dup2, 1) := by decide +kernel
theorem d_M_askFor_124 : decode b_M_askFor 124 = .ok (.iaload, 1) := by decide +kernel
theorem d_M_askFor_125 : decode b_M_askFor 125 = .ok (.iconst 1, 1) := by decide +kernel
theorem d_M_askFor_126 : decode b_M_askFor 126 = .ok (.iadd, 1) := by decide +kernel
theorem d_M_askFor_127 : decode b_M_askFor 127 = .ok (.iastore, 1) := by decide +kernel
theorem d_M_askFor_128 : decode b_M_askFor 128 = .ok (.aload_n 0, 1) := by decide +kernel
theorem d_M_askFor_129 : decode b_M_askFor 129 = .ok (.getfield 34, 3) := by decide +kernel
theorem d_M_askFor_132 : decode b_M_askFor 132 = .ok (.iload_n 1, 1) := by decide +kernel
theorem d_M_askFor_133 : decode b_M_askFor 133 = .ok (.iload_n 2, 1) := by decide +kernel
theorem d_M_askFor_134 : decode b_M_askFor 134 = .ok (.iastore, 1) := by decide +kernel
theorem d_M_askFor_135 : decode b_M_askFor 135 = .ok (.aload_n 0, 1) := by decide +kernel
theorem d_M_askFor_136 : decode b_M_askFor 136 = .ok (.getfield 71, 3) := by decide +kernel
theorem d_M_askFor_139 : decode b_M_askFor 139 = .ok (.aload_n 0, 1) := by decide +kernel
theorem d_M_askFor_140 : decode b_M_askFor 140 = .ok (.getfield 122, 3) := by decide +kernel
theorem d_M_askFor_143 : decode b_M_askFor 143 = .ok (.iload_n 1, 1) := by decide +kernel
theorem d_M_askFor_144 : decode b_M_askFor 144 = .ok (.iastore, 1) := by decide +kernel
theorem d_M_askFor_145 : decode b_M_askFor 145 = .ok (.aload_n 0, 1) := by decide +kernel
theorem d_M_askFor_146 : decode b_M_askFor 146 = .ok (.getfield 74, 3) := by decide +kernel
theorem d_M_askFor_149 : decode b_M_askFor 149 = .ok (.aload_n 0, 1) := by decide +kernel
theorem d_M_askFor_150 : decode b_M_askFor 150 = .ok (.getfield 122, 3) := by decide +kernel
theorem d_M_askFor_153 : decode b_M_askFor 153 = .ok (.aload_n 0, 1) := by decide +kernel
theorem d_M_askFor_154 : decode b_M_askFor 154 = .ok (.getfield 31, 3) := by decide +kernel
theorem d_M_askFor_157 : decode b_M_askFor 157 = .ok (.iload_n 1, 1) := by decide +kernel
theorem d_M_askFor_158 : decode b_M_askFor 158 = .ok (.iaload, 1) := by decide +kernel
theorem d_M_askFor_159 : decode b_M_askFor 159 = .ok (.iastore, 1) := by decide +kernel
theorem d_M_askFor_160 : decode b_M_askFor 160 = .ok (.aload_n 0, 1) := by decide +kernel
theorem d_M_askFor_161 : decode b_M_askFor 161 = .ok (.dup, 1) := by decide +kernel
theorem d_M_askFor_162 : decode b_M_askFor 162 = .ok (.getfield 122, 3) := by decide +kernel
theorem d_M_askFor_165 : decode b_M_askFor 165 = .ok (.iconst 1, 1) := by decide +kernel
theorem d_M_askFor_166 : decode b_M_askFor 166 = .ok (.iadd, 1) := by decide +kernel
theorem d_M_askFor_167 : decode b_M_askFor 167 = .ok (.putfield 122, 3) := by decide +kernel
theorem d_M_askFor_170 : decode b_M_askFor 170 = .ok (.return_, 1) := by decide +kernel
theorem d_M_claimed_0 : decode b_M_claimed 0 = .ok (.aload_n 0, 1) := by decide +kernel
theorem d_M_claimed_1 : decode b_M_claimed 1 = .ok (.iload_n 1, 1) := by decide +kernel
theorem d_M_claimed_2 : decode b_M_claimed 2 = .ok (.iconst 0, 1) := by decide +kernel
theorem d_M_claimed_3 : decode b_M_claimed 3 = .ok (.aload_n 0, 1) := by decide +kernel
theorem d_M_claimed_4 : decode b_M_claimed 4 = .ok (.getfield 122, 3) := by decide +kernel
theorem d_M_claimed_7 : decode b_M_claimed 7 = .ok (.iconst 1, 1) := by decide +kernel
theorem d_M_claimed_8 : decode b_M_claimed 8 = .ok (.isub, 1) := by decide +kernel
theorem d_M_claimed_9 : decode b_M_claimed 9 = .ok (.invokestatic 97, 3) := by decide +kernel
theorem d_M_claimed_12 : decode b_M_claimed 12 = .ok (.ifCond .eq 12, 3) := by decide +kernel
theorem d_M_claimed_15 : decode b_M_claimed 15 = .ok (.iload_n 2, 1) := by decide +kernel
theorem d_M_claimed_16 : decode b_M_claimed 16 = .ok (.iconst 0, 1) := by decide +kernel
theorem d_M_claimed_17 : decode b_M_claimed 17 = .ok (.iconst 1, 1) := by decide +kernel
theorem d_M_claimed_18 : decode b_M_claimed 18 = .ok (.invokestatic 97, 3) := by decide +kernel
theorem d_M_claimed_21 : decode b_M_claimed 21 = .ok (.ifCond .ne 7, 3) := by decide +kernel
theorem d_M_claimed_24 : decode b_M_claimed 24 = .ok (.iconst 1, 1) := by decide +kernel
theorem d_M_claimed_25 : decode b_M_claimed 25 = .ok (.goto 4, 3) := by decide +kernel
theorem d_M_claimed_28 : decode b_M_claimed 28 = .ok (.iconst 0, 1) := by decide +kernel
theorem d_M_claimed_29 : decode b_M_claimed 29 = .ok (.putfield 92, 3) := by decide +kernel
theorem d_M_claimed_32 : decode b_M_claimed 32 = .ok (.aload_n 0, 1) := by decide +kernel
theorem d_M_claimed_33 : decode b_M_claimed 33 = .ok (.getfield 92, 3) := by decide +kernel
theorem d_M_claimed_36 : decode b_M_claimed 36 = .ok (.ifCond .le 7, 3) := by decide +kernel
theorem d_M_claimed_39 : decode b_M_claimed 39 = .ok (.iconst 0, 1) := by decide +kernel
theorem d_M_claimed_40 : decode b_M_claimed 40 = .ok (.goto 22, 3) := by decide +kernel
theorem d_M_claimed_43 : decode b_M_claimed 43 = .ok (.iload_n 2, 1) := by decide +kernel
theorem d_M_claimed_44 : decode b_M_claimed 44 = .ok (.ifCond .ne 12, 3) := by decide +kernel
theorem d_M_claimed_47 : decode b_M_claimed 47 = .ok (.aload_n 0, 1) := by decide +kernel
theorem d_M_claimed_48 : decode b_M_claimed 48 = .ok (.getfield 71, 3) := by decide +kernel
theorem d_M_claimed_51 : decode b_M_claimed 51 = .ok (.iload_n 1, 1) := by decide +kernel
theorem d_M_claimed_52 : decode b_M_claimed 52 = .ok (.iaload, 1) := by decide +kernel
theorem d_M_claimed_53 : decode b_M_claimed 53 = .ok (.goto 9, 3) := by decide +kernel
theorem d_M_claimed_56 : decode b_M_claimed 56 = .ok (.aload_n 0, 1) := by decide +kernel
theorem d_M_claimed_57 : decode b_M_claimed 57 = .ok (.getfield 74, 3) := by decide +kernel
theorem d_M_claimed_60 : decode b_M_claimed 60 = .ok (.iload_n 1, 1) := by decide +kernel
theorem d_M_claimed_61 : decode b_M_claimed 61 = .ok (.iaload, 1) := by decide +kernel
theorem d_M_claimed_62 : decode b_M_claimed 62 = .ok (.ireturn, 1) := by decide +kernel
theorem d_M_list_0 : decode b_M_list 0 = .ok (.aload_n 0, 1) := by decide +kernel
theorem d_M_list_1 : decode b_M_list 1 = .ok (.iconst 0, 1) := by decide +kernel
theorem d_M_list_2 : decode b_M_list 2 = .ok (.putfield 92, 3) := by decide +kernel
theorem d_M_list_5 : decode b_M_list 5 = .ok (.aload_n 0, 1) := by decide +kernel
theorem d_M_list_6 : decode b_M_list 6 = .ok (.iload_n 1, 1) := by decide +kernel
theorem d_M_list_7 : decode b_M_list 7 = .ok (.invokevirtual 115, 3) := by decide +kernel
theorem d_M_list_10 : decode b_M_list 10 = .ok (.ifCond .ne 5, 3) := by decide +kernel
theorem d_M_list_13 : decode b_M_list 13 = .ok (.iconst (-1), 1) := by decide +kernel
theorem d_M_list_14 : decode b_M_list 14 = .ok (.ireturn, 1) := by decide +kernel
theorem d_M_list_15 : decode b_M_list 15 = .ok (.iload_n 2, 1) := by decide +kernel
theorem d_M_list_16 : decode b_M_list 16 = .ok (.iconst 0, 1) := by decide +kernel
theorem d_M_list_17 : decode b_M_list 17 = .ok (.sipush 999, 3) := by decide +kernel
theorem d_M_list_20 : decode b_M_list 20 = .ok (.invokestatic 97, 3) := by decide +kernel
theorem d_M_list_23 : decode b_M_list 23 = .ok (.ifCond .eq 13, 3) := by decide +kernel
theorem d_M_list_26 : decode b_M_list 26 = .ok (.iload_n 3, 1) := by decide +kernel
theorem d_M_list_27 : decode b_M_list 27 = .ok (.iconst 1, 1) := by decide +kernel
theorem d_M_list_28 : decode b_M_list 28 = .ok (.bipush 100, 2) := by decide +kernel
theorem d_M_list_30 : decode b_M_list 30 = .ok (.invokestatic 97, 3) := by decide +kernel
theorem d_M_list_33 : decode b_M_list 33 = .ok (.ifCond .ne 6, 3) := by decide +kernel
theorem d_M_list_36 : decode b_M_list 36 = .ok (.bipush (-2), 2) := by decide +kernel
theorem d_M_list_38 : decode b_M_list 38 = .ok (.ireturn, 1) := by decide +kernel
theorem d_M_list_39 : decode b_M_list 39 = .ok (.aload_n 0, 1) := by decide +kernel
theorem d_M_list_40 : decode b_M_list 40 = .ok (.getfield 25, 3) := by decide +kernel
theorem d_M_list_43 : decode b_M_list 43 = .ok (.iload_n 1, 1) := by decide +kernel
theorem d_M_list_44 : decode b_M_list 44 = .ok (.iaload, 1) := by decide +kernel
theorem d_M_list_45 : decode b_M_list 45 = .ok (.iconst 3, 1) := by decide +kernel
theorem d_M_list_46 : decode b_M_list 46 = .ok (.if_icmp .ne 12, 3) := by decide +kernel
theorem d_M_list_49 : decode b_M_list 49 = .ok (.aload_n 0, 1) := by decide +kernel
theorem d_M_list_50 : decode b_M_list 50 = .ok (.getfield 65, 3) := by decide +kernel
theorem d_M_list_53 : decode b_M_list 53 = .ok (.iload_n 1, 1) := by decide +kernel
theorem d_M_list_54 : decode b_M_list 54 = .ok (.iaload, 1) := by decide +kernel
theorem d_M_list_55 : decode b_M_list 55 = .ok (.ifCond .lt 6, 3) := by decide +kernel
theorem d_M_list_58 : decode b_M_list 58 = .ok (.bipush (-3), 2) := by decide +kernel
theorem d_M_list_60 : decode b_M_list 60 = .ok (.ireturn, 1) := by decide +kernel
theorem d_M_list_61 : decode b_M_list 61 = .ok (.aload_n 0, 1) := by decide +kernel
theorem d_M_list_62 : decode b_M_list 62 = .ok (.getfield 56, 3) := by decide +kernel
theorem d_M_list_65 : decode b_M_list 65 = .ok (.iload_n 1, 1) := by decide +kernel
theorem d_M_list_66 : decode b_M_list 66 = .ok (.iaload, 1) := by decide +kernel
theorem d_M_list_67 : decode b_M_list 67 = .ok (.bipush 8, 2) := by decide +kernel
theorem d_M_list_69 : decode b_M_list 69 = .ok (.if_icmp .ne 6, 3) := by decide +kernel
theorem d_M_list_72 : decode b_M_list 72 = .ok (.bipush (-4), 2) := by decide +kernel
theorem d_M_list_74 : decode b_M_list 74 = .ok (.ireturn, 1) := by decide +kernel
theorem d_M_list_75 : decode b_M_list 75 = .ok (.aload_n 0, 1) := by decide +kernel
theorem d_M_list_76 : decode b_M_list 76 = .ok (.getfield 59, 3) := by decide +kernel
theorem d_M_list_79 : decode b_M_list 79 = .ok (.bipush 8, 2) := by decide +kernel
theorem d_M_list_81 : decode b_M_list 81 = .ok (.iload_n 1, 1) := by decide +kernel
theorem d_M_list_82 : decode b_M_list 82 = .ok (.imul, 1) := by decide +kernel
theorem d_M_list_83 : decode b_M_list 83 = .ok (.aload_n 0, 1) := by decide +kernel
theorem d_M_list_84 : decode b_M_list 84 = .ok (.getfield 56, 3) := by decide +kernel
theorem d_M_list_87 : decode b_M_list 87 = .ok (.iload_n 1, 1) := by decide +kernel
theorem d_M_list_88 : decode b_M_list 88 = .ok (.iaload, 1) := by decide +kernel
theorem d_M_list_89 : decode b_M_list 89 = .ok (.iadd, 1) := by decide +kernel
theorem d_M_list_90 : decode b_M_list 90 = .ok (.iload_n 2, 1) := by decide +kernel
theorem d_M_list_91 : decode b_M_list 91 = .ok (.iastore, 1) := by decide +kernel
theorem d_M_list_92 : decode b_M_list 92 = .ok (.aload_n 0, 1) := by decide +kernel
theorem d_M_list_93 : decode b_M_list 93 = .ok (.getfield 62, 3) := by decide +kernel
theorem d_M_list_96 : decode b_M_list 96 = .ok (.bipush 8, 2) := by decide +kernel
theorem d_M_list_98 : decode b_M_list 98 = .ok (.iload_n 1, 1) := by decide +kernel
theorem d_M_list_99 : decode b_M_list 99 = .ok (.imul, 1) := by decide +kernel
theorem d_M_list_100 : decode b_M_list 100 = .ok (.aload_n 0, 1) := by decide +kernel
theorem d_M_list_101 : decode b_M_list 101 = .ok (.getfield 56, 3) := by decide +kernel
theorem d_M_list_104 : decode b_M_list 104 = .ok (.iload_n 1, 1) := by decide +kernel
theorem d_M_list_105 : decode b_M_list 105 = .ok (.iaload, 1) := by decide +kernel
theorem d_M_list_106 : decode b_M_list 106 = .ok (.iadd, 1) := by decide +kernel
theorem d_M_list_107 : decode b_M_list 107 = .ok (.iload_n 3, 1) := by decide +kernel
theorem d_M_list_108 : decode b_M_list 108 = .ok (.iastore, 1) := by decide +kernel
theorem d_M_list_109 : decode b_M_list 109 = .ok (.aload_n 0, 1) := by decide +kernel
theorem d_M_list_110 : decode b_M_list 110 = .ok (.getfield 56, 3) := by decide +kernel
theorem d_M_list_113 : decode b_M_list 113 = .ok (.iload_n 1, 1) := by decide +kernel
theorem d_M_list_114 : decode b_M_list 114 = .ok (.dup2, 1) := by decide +kernel
theorem d_M_list_115 : decode b_M_list 115 = .ok (.iaload, 1) := by decide +kernel
theorem d_M_list_116 : decode b_M_list 116 = .ok (.iconst 1, 1) := by decide +kernel
theorem d_M_list_117 : decode b_M_list 117 = .ok (.iadd, 1) := by decide +kernel
theorem d_M_list_118 : decode b_M_list 118 = .ok (.iastore, 1) := by decide +kernel
theorem d_M_list_119 : decode b_M_list 119 = .ok (.aload_n 0, 1) := by decide +kernel
theorem d_M_list_120 : decode b_M_list 120 = .ok (.getfield 56, 3) := by decide +kernel
theorem d_M_list_123 : decode b_M_list 123 = .ok (.iload_n 1, 1) := by decide +kernel
theorem d_M_list_124 : decode b_M_list 124 = .ok (.iaload, 1) := by decide +kernel
theorem d_M_list_125 : decode b_M_list 125 = .ok (.ireturn, 1) := by decide +kernel
theorem d_M_route_0 : decode b_M_route 0 = .ok (.aload_n 0, 1) := by decide +kernel
theorem d_M_route_1 : decode b_M_route 1 = .ok (.iconst 0, 1) := by decide +kernel
theorem d_M_route_2 : decode b_M_route 2 = .ok (.putfield 92, 3) := by decide +kernel
theorem d_M_route_5 : decode b_M_route 5 = .ok (.aload_n 0, 1) := by decide +kernel
theorem d_M_route_6 : decode b_M_route 6 = .ok (.iload_n 1, 1) := by decide +kernel
theorem d_M_route_7 : decode b_M_route 7 = .ok (.invokevirtual 115, 3) := by decide +kernel
theorem d_M_route_10 : decode b_M_route 10 = .ok (.ifCond .ne 5, 3) := by decide +kernel
theorem d_M_route_13 : decode b_M_route 13 = .ok (.iconst (-1), 1) := by decide +kernel
theorem d_M_route_14 : decode b_M_route 14 = .ok (.ireturn, 1) := by decide +kernel
theorem d_M_route_15 : decode b_M_route 15 = .ok (.iload_n 2, 1) := by decide +kernel
theorem d_M_route_16 : decode b_M_route 16 = .ok (.invokestatic 107, 3) := by decide +kernel
theorem d_M_route_19 : decode b_M_route 19 = .ok (.ifCond .ne 6, 3) := by decide +kernel
theorem d_M_route_22 : decode b_M_route 22 = .ok (.bipush (-2), 2) := by decide +kernel
theorem d_M_route_24 : decode b_M_route 24 = .ok (.ireturn, 1) := by decide +kernel
