theorem d_M_about_105 : decode b_M_about 105 = .ok (.getfield 31, 3) := by decide +kernel
theorem d_M_about_108 : decode b_M_about 108 = .ok (.iload_n 1, 1) := by decide +kernel
theorem d_M_about_109 : decode b_M_about 109 = .ok (.iaload, 1) := by decide +kernel
theorem d_M_about_110 : decode b_M_about 110 = .ok (.ireturn, 1) := by decide +kernel
theorem d_M_about_111 : decode b_M_about 111 = .ok (.aload_n 0, 1) := by decide +kernel
theorem d_M_about_112 : decode b_M_about 112 = .ok (.getfield 37, 3) := by decide +kernel
theorem d_M_about_115 : decode b_M_about 115 = .ok (.iload_n 1, 1) := by decide +kernel
theorem d_M_about_116 : decode b_M_about 116 = .ok (.iaload, 1) := by decide +kernel
theorem d_M_about_117 : decode b_M_about 117 = .ok (.ireturn, 1) := by decide +kernel
theorem d_M_about_118 : decode b_M_about 118 = .ok (.aload_n 0, 1) := by decide +kernel
theorem d_M_about_119 : decode b_M_about 119 = .ok (.getfield 40, 3) := by decide +kernel
theorem d_M_about_122 : decode b_M_about 122 = .ok (.iload_n 1, 1) := by decide +kernel
theorem d_M_about_123 : decode b_M_about 123 = .ok (.iaload, 1) := by decide +kernel
theorem d_M_about_124 : decode b_M_about 124 = .ok (.ireturn, 1) := by decide +kernel
theorem d_M_about_125 : decode b_M_about 125 = .ok (.aload_n 0, 1) := by decide +kernel
theorem d_M_about_126 : decode b_M_about 126 = .ok (.iload_n 1, 1) := by decide +kernel
theorem d_M_about_127 : decode b_M_about 127 = .ok (.invokevirtual 128, 3) := by decide +kernel
theorem d_M_about_130 : decode b_M_about 130 = .ok (.ifCond .eq 22, 3) := by decide +kernel
theorem d_M_about_133 : decode b_M_about 133 = .ok (.aload_n 0, 1) := by decide +kernel
theorem d_M_about_134 : decode b_M_about 134 = .ok (.getfield 59, 3) := by decide +kernel
theorem d_M_about_137 : decode b_M_about 137 = .ok (.bipush 8, 2) := by decide +kernel
theorem d_M_about_139 : decode b_M_about 139 = .ok (.iload_n 1, 1) := by decide +kernel
theorem d_M_about_140 : decode b_M_about 140 = .ok (.imul, 1) := by decide +kernel
theorem d_M_about_141 : decode b_M_about 141 = .ok (.aload_n 0, 1) := by decide +kernel
theorem d_M_about_142 : decode b_M_about 142 = .ok (.getfield 65, 3) := by decide +kernel
theorem d_M_about_145 : decode b_M_about 145 = .ok (.iload_n 1, 1) := by decide +kernel
theorem d_M_about_146 : decode b_M_about 146 = .ok (.iaload, 1) := by decide +kernel
theorem d_M_about_147 : decode b_M_about 147 = .ok (.iadd, 1) := by decide +kernel
theorem d_M_about_148 : decode b_M_about 148 = .ok (.iaload, 1) := by decide +kernel
theorem d_M_about_149 : decode b_M_about 149 = .ok (.goto 4, 3) := by decide +kernel
theorem d_M_about_152 : decode b_M_about 152 = .ok (.iconst (-1), 1) := by decide +kernel
theorem d_M_about_153 : decode b_M_about 153 = .ok (.ireturn, 1) := by decide +kernel
theorem d_M_about_154 : decode b_M_about 154 = .ok (.aload_n 0, 1) := by decide +kernel
theorem d_M_about_155 : decode b_M_about 155 = .ok (.getfield 43, 3) := by decide +kernel
theorem d_M_about_158 : decode b_M_about 158 = .ok (.iload_n 1, 1) := by decide +kernel
theorem d_M_about_159 : decode b_M_about 159 = .ok (.iaload, 1) := by decide +kernel
theorem d_M_about_160 : decode b_M_about 160 = .ok (.ireturn, 1) := by decide +kernel
theorem d_M_about_161 : decode b_M_about 161 = .ok (.aload_n 0, 1) := by decide +kernel
theorem d_M_about_162 : decode b_M_about 162 = .ok (.getfield 46, 3) := by decide +kernel
theorem d_M_about_165 : decode b_M_about 165 = .ok (.iload_n 1, 1) := by decide +kernel
theorem d_M_about_166 : decode b_M_about 166 = .ok (.iaload, 1) := by decide +kernel
theorem d_M_about_167 : decode b_M_about 167 = .ok (.ireturn, 1) := by decide +kernel
theorem d_M_about_168 : decode b_M_about 168 = .ok (.aload_n 0, 1) := by decide +kernel
theorem d_M_about_169 : decode b_M_about 169 = .ok (.getfield 49, 3) := by decide +kernel
theorem d_M_about_172 : decode b_M_about 172 = .ok (.iload_n 1, 1) := by decide +kernel
theorem d_M_about_173 : decode b_M_about 173 = .ok (.iaload, 1) := by decide +kernel
theorem d_M_about_174 : decode b_M_about 174 = .ok (.ireturn, 1) := by decide +kernel
theorem d_M_about_175 : decode b_M_about 175 = .ok (.iconst (-1), 1) := by decide +kernel
theorem d_M_about_176 : decode b_M_about 176 = .ok (.ireturn, 1) := by decide +kernel
theorem d_M_cost_0 : decode b_M_cost 0 = .ok (.aload_n 0, 1) := by decide +kernel
theorem d_M_cost_1 : decode b_M_cost 1 = .ok (.iconst 0, 1) := by decide +kernel
theorem d_M_cost_2 : decode b_M_cost 2 = .ok (.putfield 92, 3) := by decide +kernel
theorem d_M_cost_5 : decode b_M_cost 5 = .ok (.aload_n 0, 1) := by decide +kernel
theorem d_M_cost_6 : decode b_M_cost 6 = .ok (.iload_n 1, 1) := by decide +kernel
theorem d_M_cost_7 : decode b_M_cost 7 = .ok (.invokevirtual 115, 3) := by decide +kernel
theorem d_M_cost_10 : decode b_M_cost 10 = .ok (.ifCond .ne 5, 3) := by decide +kernel
theorem d_M_cost_13 : decode b_M_cost 13 = .ok (.iconst (-1), 1) := by decide +kernel
theorem d_M_cost_14 : decode b_M_cost 14 = .ok (.ireturn, 1) := by decide +kernel
theorem d_M_cost_15 : decode b_M_cost 15 = .ok (.iload_n 2, 1) := by decide +kernel
theorem d_M_cost_16 : decode b_M_cost 16 = .ok (.iconst 0, 1) := by decide +kernel
theorem d_M_cost_17 : decode b_M_cost 17 = .ok (.ldc 147, 2) := by decide +kernel
theorem d_M_cost_19 : decode b_M_cost 19 = .ok (.invokestatic 97, 3) := by decide +kernel
theorem d_M_cost_22 : decode b_M_cost 22 = .ok (.ifCond .ne 6, 3) := by decide +kernel
theorem d_M_cost_25 : decode b_M_cost 25 = .ok (.bipush (-2), 2) := by decide +kernel
theorem d_M_cost_27 : decode b_M_cost 27 = .ok (.ireturn, 1) := by decide +kernel
theorem d_M_cost_28 : decode b_M_cost 28 = .ok (.aload_n 0, 1) := by decide +kernel
theorem d_M_cost_29 : decode b_M_cost 29 = .ok (.getfield 49, 3) := by decide +kernel
theorem d_M_cost_32 : decode b_M_cost 32 = .ok (.iload_n 1, 1) := by decide +kernel
theorem d_M_cost_33 : decode b_M_cost 33 = .ok (.iaload, 1) := by decide +kernel
theorem d_M_cost_34 : decode b_M_cost 34 = .ok (.iload_n 2, 1) := by decide +kernel
theorem d_M_cost_35 : decode b_M_cost 35 = .ok (.iadd, 1) := by decide +kernel
theorem d_M_cost_36 : decode b_M_cost 36 = .ok (.ldc 148, 2) := by decide +kernel
theorem d_M_cost_38 : decode b_M_cost 38 = .ok (.if_icmp .le 6, 3) := by decide +kernel
theorem d_M_cost_41 : decode b_M_cost 41 = .ok (.bipush (-4), 2) := by decide +kernel
theorem d_M_cost_43 : decode b_M_cost 43 = .ok (.ireturn, 1) := by decide +kernel
theorem d_M_cost_44 : decode b_M_cost 44 = .ok (.aload_n 0, 1) := by decide +kernel
theorem d_M_cost_45 : decode b_M_cost 45 = .ok (.getfield 49, 3) := by decide +kernel
theorem d_M_cost_48 : decode b_M_cost 48 = .ok (.iload_n 1, 1) := by decide +kernel
theorem d_M_cost_49 : decode b_M_cost 49 = .ok (.dup2, 1) := by decide +kernel
theorem d_M_cost_50 : decode b_M_cost 50 = .ok (.iaload, 1) := by decide +kernel
theorem d_M_cost_51 : decode b_M_cost 51 = .ok (.iload_n 2, 1) := by decide +kernel
theorem d_M_cost_52 : decode b_M_cost 52 = .ok (.iadd, 1) := by decide +kernel
theorem d_M_cost_53 : decode b_M_cost 53 = .ok (.iastore, 1) := by decide +kernel
theorem d_M_cost_54 : decode b_M_cost 54 = .ok (.aload_n 0, 1) := by decide +kernel
theorem d_M_cost_55 : decode b_M_cost 55 = .ok (.getfield 49, 3) := by decide +kernel
theorem d_M_cost_58 : decode b_M_cost 58 = .ok (.iload_n 1, 1) := by decide +kernel
theorem d_M_cost_59 : decode b_M_cost 59 = .ok (.iaload, 1) := by decide +kernel
theorem d_M_cost_60 : decode b_M_cost 60 = .ok (.ireturn, 1) := by decide +kernel
theorem d_M_told_0 : decode b_M_told 0 = .ok (.aload_n 0, 1) := by decide +kernel
theorem d_M_told_1 : decode b_M_told 1 = .ok (.iconst 0, 1) := by decide +kernel
theorem d_M_told_2 : decode b_M_told 2 = .ok (.putfield 92, 3) := by decide +kernel
theorem d_M_told_5 : decode b_M_told 5 = .ok (.iload_n 1, 1) := by decide +kernel
theorem d_M_told_6 : decode b_M_told 6 = .ok (.iconst 0, 1) := by decide +kernel
theorem d_M_told_7 : decode b_M_told 7 = .ok (.aload_n 0, 1) := by decide +kernel
theorem d_M_told_8 : decode b_M_told 8 = .ok (.getfield 104, 3) := by decide +kernel
theorem d_M_told_11 : decode b_M_told 11 = .ok (.iconst 1, 1) := by decide +kernel
theorem d_M_told_12 : decode b_M_told 12 = .ok (.isub, 1) := by decide +kernel
theorem d_M_told_13 : decode b_M_told 13 = .ok (.invokestatic 97, 3) := by decide +kernel
theorem d_M_told_16 : decode b_M_told 16 = .ok (.ifCond .eq 12, 3) := by decide +kernel
theorem d_M_told_19 : decode b_M_told 19 = .ok (.iload_n 2, 1) := by decide +kernel
theorem d_M_told_20 : decode b_M_told 20 = .ok (.iconst 0, 1) := by decide +kernel
theorem d_M_told_21 : decode b_M_told 21 = .ok (.iconst 1, 1) := by decide +kernel
theorem d_M_told_22 : decode b_M_told 22 = .ok (.invokestatic 97, 3) := by decide +kernel
theorem d_M_told_25 : decode b_M_told 25 = .ok (.ifCond .ne 7, 3) := by decide +kernel
theorem d_M_told_28 : decode b_M_told 28 = .ok (.iconst (-1), 1) := by decide +kernel
theorem d_M_told_29 : decode b_M_told 29 = .ok (.goto 22, 3) := by decide +kernel
theorem d_M_told_32 : decode b_M_told 32 = .ok (.iload_n 2, 1) := by decide +kernel
theorem d_M_told_33 : decode b_M_told 33 = .ok (.ifCond .ne 12, 3) := by decide +kernel
theorem d_M_told_36 : decode b_M_told 36 = .ok (.aload_n 0, 1) := by decide +kernel
theorem d_M_told_37 : decode b_M_told 37 = .ok (.getfield 86, 3) := by decide +kernel
theorem d_M_told_40 : decode b_M_told 40 = .ok (.iload_n 1, 1) := by decide +kernel
theorem d_M_told_41 : decode b_M_told 41 = .ok (.iaload, 1) := by decide +kernel
theorem d_M_told_42 : decode b_M_told 42 = .ok (.goto 9, 3) := by decide +kernel
theorem d_M_told_45 : decode b_M_told 45 = .ok (.aload_n 0, 1) := by decide +kernel
theorem d_M_told_46 : decode b_M_told 46 = .ok (.getfield 89, 3) := by decide +kernel
theorem d_M_told_49 : decode b_M_told 49 = .ok (.iload_n 1, 1) := by decide +kernel
theorem d_M_told_50 : decode b_M_told 50 = .ok (.iaload, 1) := by decide +kernel
theorem d_M_told_51 : decode b_M_told 51 = .ok (.ireturn, 1) := by decide +kernel
theorem d_M_lateness_0 : decode b_M_lateness 0 = .ok (.aload_n 0, 1) := by decide +kernel
theorem d_M_lateness_1 : decode b_M_lateness 1 = .ok (.iconst 0, 1) := by decide +kernel
theorem d_M_lateness_2 : decode b_M_lateness 2 = .ok (.putfield 92, 3) := by decide +kernel
theorem d_M_lateness_5 : decode b_M_lateness 5 = .ok (.iload_n 1, 1) := by decide +kernel
theorem d_M_lateness_6 : decode b_M_lateness 6 = .ok (.iconst 0, 1) := by decide +kernel
theorem d_M_lateness_7 : decode b_M_lateness 7 = .ok (.bipush 9, 2) := by decide +kernel
theorem d_M_lateness_9 : decode b_M_lateness 9 = .ok (.invokestatic 97, 3) := by decide +kernel
theorem d_M_lateness_12 : decode b_M_lateness 12 = .ok (.ifCond .ne 5, 3) := by decide +kernel
theorem d_M_lateness_15 : decode b_M_lateness 15 = .ok (.iconst (-1), 1) := by decide +kernel
theorem d_M_lateness_16 : decode b_M_lateness 16 = .ok (.ireturn, 1) := by decide +kernel
theorem d_M_lateness_17 : decode b_M_lateness 17 = .ok (.iconst 0, 1) := by decide +kernel
theorem d_M_lateness_18 : decode b_M_lateness 18 = .ok (.istore_n 2, 1) := by decide +kernel
theorem d_M_lateness_19 : decode b_M_lateness 19 = .ok (.iconst 0, 1) := by decide +kernel
theorem d_M_lateness_20 : decode b_M_lateness 20 = .ok (.istore_n 3, 1) := by decide +kernel
theorem d_M_lateness_21 : decode b_M_lateness 21 = .ok (.iload_n 3, 1) := by decide +kernel
theorem d_M_lateness_22 : decode b_M_lateness 22 = .ok (.aload_n 0, 1) := by decide +kernel
theorem d_M_lateness_23 : decode b_M_lateness 23 = .ok (.getfield 101, 3) := by decide +kernel
theorem d_M_lateness_26 : decode b_M_lateness 26 = .ok (.if_icmp .ge 68, 3) := by decide +kernel
theorem d_M_lateness_29 : decode b_M_lateness 29 = .ok (.aload_n 0, 1) := by decide +kernel
theorem d_M_lateness_30 : decode b_M_lateness 30 = .ok (.getfield 19, 3) := by decide +kernel
theorem d_M_lateness_33 : decode b_M_lateness 33 = .ok (.iload_n 3, 1) := by decide +kernel
theorem d_M_lateness_34 : decode b_M_lateness 34 = .ok (.iaload, 1) := by decide +kernel
theorem d_M_lateness_35 : decode b_M_lateness 35 = .ok (.iload_n 1, 1) := by decide +kernel
theorem d_M_lateness_36 : decode b_M_lateness 36 = .ok (.if_icmp .ne 52, 3) := by decide +kernel
theorem d_M_lateness_39 : decode b_M_lateness 39 = .ok (.aload_n 0, 1) := by decide +kernel
theorem d_M_lateness_40 : decode b_M_lateness 40 = .ok (.getfield 52, 3) := by decide +kernel
theorem d_M_lateness_43 : decode b_M_lateness 43 = .ok (.iload_n 3, 1) := by decide +kernel
theorem d_M_lateness_44 : decode b_M_lateness 44 = .ok (.baload, 1) := by decide +kernel
theorem d_M_lateness_45 : decode b_M_lateness 45 = .ok (.ifCond .ne 43, 3) := by decide +kernel
theorem d_M_lateness_48 : decode b_M_lateness 48 = .ok (.aload_n 0, 1) := by decide +kernel
theorem d_M_lateness_49 : decode b_M_lateness 49 = .ok (.getfield 28, 3) := by decide +kernel
theorem d_M_lateness_52 : decode b_M_lateness 52 = .ok (.iload_n 3, 1) := by decide +kernel
theorem d_M_lateness_53 : decode b_M_lateness 53 = .ok (.iaload, 1) := by decide +kernel
theorem d_M_lateness_54 : decode b_M_lateness 54 = .ok (.ifCond .lt 34, 3) := by decide +kernel
theorem d_M_lateness_57 : decode b_M_lateness 57 = .ok (.aload_n 0, 1) := by decide +kernel
theorem d_M_lateness_58 : decode b_M_lateness 58 = .ok (.getfield 40, 3) := by decide +kernel
theorem d_M_lateness_61 : decode b_M_lateness 61 = .ok (.iload_n 3, 1) := by decide +kernel
theorem d_M_lateness_62 : decode b_M_lateness 62 = .ok (.iaload, 1) := by decide +kernel
theorem d_M_lateness_63 : decode b_M_lateness 63 = .ok (.aload_n 0, 1) := by decide +kernel
theorem d_M_lateness_64 : decode b_M_lateness 64 = .ok (.getfield 28, 3) := by decide +kernel
theorem d_M_lateness_67 : decode b_M_lateness 67 = .ok (.iload_n 3, 1) := by decide +kernel
theorem d_M_lateness_68 : decode b_M_lateness 68 = .ok (.iaload, 1) := by decide +kernel
theorem d_M_lateness_69 : decode b_M_lateness 69 = .ok (.if_icmp .le 19, 3) := by decide +kernel
theorem d_M_lateness_72 : decode b_M_lateness 72 = .ok (.iload_n 2, 1) := by decide +kernel
theorem d_M_lateness_73 : decode b_M_lateness 73 = .ok (.aload_n 0, 1) := by decide +kernel
theorem d_M_lateness_74 : decode b_M_lateness 74 = .ok (.getfield 40, 3) := by decide +kernel
theorem d_M_lateness_77 : decode b_M_lateness 77 = .ok (.iload_n 3, 1) := by decide +kernel
theorem d_M_lateness_78 : decode b_M_lateness 78 = .ok (.iaload, 1) := by decide +kernel
theorem d_M_lateness_79 : decode b_M_lateness 79 = .ok (.aload_n 0, 1) := by decide +kernel
theorem d_M_lateness_80 : decode b_M_lateness 80 = .ok (.getfield 28, 3) := by decide +kernel
theorem d_M_lateness_83 : decode b_M_lateness 83 = .ok (.iload_n 3, 1) := by decide +kernel
theorem d_M_lateness_84 : decode b_M_lateness 84 = .ok (.iaload, 1) := by decide +kernel
theorem d_M_lateness_85 : decode b_M_lateness 85 = .ok (.isub, 1) := by decide +kernel
theorem d_M_lateness_86 : decode b_M_lateness 86 = .ok (.iadd, 1) := by decide +kernel
theorem d_M_lateness_87 : decode b_M_lateness 87 = .ok (.istore_n 2, 1) := by decide +kernel
theorem d_M_lateness_88 : decode b_M_lateness 88 = .ok (.iinc 3 1, 3) := by decide +kernel
theorem d_M_lateness_91 : decode b_M_lateness 91 = .ok (.goto (-70), 3) := by decide +kernel
theorem d_M_lateness_94 : decode b_M_lateness 94 = .ok (.iload_n 2, 1) := by decide +kernel
theorem d_M_lateness_95 : decode b_M_lateness 95 = .ok (.ireturn, 1) := by decide +kernel
