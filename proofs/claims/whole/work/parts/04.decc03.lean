theorem d_M_nextHere_61 : decode b_M_nextHere 61 = .ok (.aload_n 0, 1) := by decide +kernel
theorem d_M_nextHere_62 : decode b_M_nextHere 62 = .ok (.getfield 22, 3) := by decide +kernel
theorem d_M_nextHere_65 : decode b_M_nextHere 65 = .ok (.iload_n 3, 1) := by decide +kernel
theorem d_M_nextHere_66 : decode b_M_nextHere 66 = .ok (.iaload, 1) := by decide +kernel
theorem d_M_nextHere_67 : decode b_M_nextHere 67 = .ok (.if_icmp .ge 6, 3) := by decide +kernel
theorem d_M_nextHere_70 : decode b_M_nextHere 70 = .ok (.iload 4, 2) := by decide +kernel
theorem d_M_nextHere_72 : decode b_M_nextHere 72 = .ok (.istore_n 3, 1) := by decide +kernel
theorem d_M_nextHere_73 : decode b_M_nextHere 73 = .ok (.iinc 4 1, 3) := by decide +kernel
theorem d_M_nextHere_76 : decode b_M_nextHere 76 = .ok (.goto (-71), 3) := by decide +kernel
theorem d_M_nextHere_79 : decode b_M_nextHere 79 = .ok (.iload_n 3, 1) := by decide +kernel
theorem d_M_nextHere_80 : decode b_M_nextHere 80 = .ok (.ireturn, 1) := by decide +kernel
theorem d_M_volume_0 : decode b_M_volume 0 = .ok (.iconst (-1), 1) := by decide +kernel
theorem d_M_volume_1 : decode b_M_volume 1 = .ok (.istore_n 3, 1) := by decide +kernel
theorem d_M_volume_2 : decode b_M_volume 2 = .ok (.iconst 0, 1) := by decide +kernel
theorem d_M_volume_3 : decode b_M_volume 3 = .ok (.istore 4, 2) := by decide +kernel
theorem d_M_volume_5 : decode b_M_volume 5 = .ok (.iload_n 1, 1) := by decide +kernel
theorem d_M_volume_6 : decode b_M_volume 6 = .ok (.iconst 0, 1) := by decide +kernel
theorem d_M_volume_7 : decode b_M_volume 7 = .ok (.aload_n 0, 1) := by decide +kernel
theorem d_M_volume_8 : decode b_M_volume 8 = .ok (.getfield 135, 3) := by decide +kernel
theorem d_M_volume_11 : decode b_M_volume 11 = .ok (.iconst 1, 1) := by decide +kernel
theorem d_M_volume_12 : decode b_M_volume 12 = .ok (.isub, 1) := by decide +kernel
theorem d_M_volume_13 : decode b_M_volume 13 = .ok (.invokestatic 97, 3) := by decide +kernel
theorem d_M_volume_16 : decode b_M_volume 16 = .ok (.ifCond .eq 11, 3) := by decide +kernel
theorem d_M_volume_19 : decode b_M_volume 19 = .ok (.iload_n 2, 1) := by decide +kernel
theorem d_M_volume_20 : decode b_M_volume 20 = .ok (.ifCond .lt 7, 3) := by decide +kernel
theorem d_M_volume_23 : decode b_M_volume 23 = .ok (.iconst 1, 1) := by decide +kernel
theorem d_M_volume_24 : decode b_M_volume 24 = .ok (.goto 4, 3) := by decide +kernel
theorem d_M_volume_27 : decode b_M_volume 27 = .ok (.iconst 0, 1) := by decide +kernel
theorem d_M_volume_28 : decode b_M_volume 28 = .ok (.istore 5, 2) := by decide +kernel
theorem d_M_volume_30 : decode b_M_volume 30 = .ok (.iconst 0, 1) := by decide +kernel
theorem d_M_volume_31 : decode b_M_volume 31 = .ok (.istore 6, 2) := by decide +kernel
theorem d_M_volume_33 : decode b_M_volume 33 = .ok (.iload 6, 2) := by decide +kernel
theorem d_M_volume_35 : decode b_M_volume 35 = .ok (.iload_n 2, 1) := by decide +kernel
theorem d_M_volume_36 : decode b_M_volume 36 = .ok (.if_icmp .gt 109, 3) := by decide +kernel
theorem d_M_volume_39 : decode b_M_volume 39 = .ok (.iload 5, 2) := by decide +kernel
theorem d_M_volume_41 : decode b_M_volume 41 = .ok (.ifCond .eq 104, 3) := by decide +kernel
theorem d_M_volume_44 : decode b_M_volume 44 = .ok (.iconst (-1), 1) := by decide +kernel
theorem d_M_volume_45 : decode b_M_volume 45 = .ok (.istore_n 3, 1) := by decide +kernel
theorem d_M_volume_46 : decode b_M_volume 46 = .ok (.iconst 0, 1) := by decide +kernel
theorem d_M_volume_47 : decode b_M_volume 47 = .ok (.istore 7, 2) := by decide +kernel
theorem d_M_volume_49 : decode b_M_volume 49 = .ok (.iload 7, 2) := by decide +kernel
theorem d_M_volume_51 : decode b_M_volume 51 = .ok (.aload_n 0, 1) := by decide +kernel
theorem d_M_volume_52 : decode b_M_volume 52 = .ok (.getfield 101, 3) := by decide +kernel
theorem d_M_volume_55 : decode b_M_volume 55 = .ok (.if_icmp .ge 55, 3) := by decide +kernel
theorem d_M_volume_58 : decode b_M_volume 58 = .ok (.aload_n 0, 1) := by decide +kernel
theorem d_M_volume_59 : decode b_M_volume 59 = .ok (.getfield 43, 3) := by decide +kernel
theorem d_M_volume_62 : decode b_M_volume 62 = .ok (.iload 7, 2) := by decide +kernel
theorem d_M_volume_64 : decode b_M_volume 64 = .ok (.iaload, 1) := by decide +kernel
theorem d_M_volume_65 : decode b_M_volume 65 = .ok (.iload_n 1, 1) := by decide +kernel
theorem d_M_volume_66 : decode b_M_volume 66 = .ok (.if_icmp .ne 38, 3) := by decide +kernel
theorem d_M_volume_69 : decode b_M_volume 69 = .ok (.aload_n 0, 1) := by decide +kernel
theorem d_M_volume_70 : decode b_M_volume 70 = .ok (.getfield 22, 3) := by decide +kernel
theorem d_M_volume_73 : decode b_M_volume 73 = .ok (.iload 7, 2) := by decide +kernel
theorem d_M_volume_75 : decode b_M_volume 75 = .ok (.iaload, 1) := by decide +kernel
theorem d_M_volume_76 : decode b_M_volume 76 = .ok (.iload 4, 2) := by decide +kernel
theorem d_M_volume_78 : decode b_M_volume 78 = .ok (.if_icmp .le 26, 3) := by decide +kernel
theorem d_M_volume_81 : decode b_M_volume 81 = .ok (.iload_n 3, 1) := by decide +kernel
theorem d_M_volume_82 : decode b_M_volume 82 = .ok (.ifCond .lt 19, 3) := by decide +kernel
theorem d_M_volume_85 : decode b_M_volume 85 = .ok (.aload_n 0, 1) := by decide +kernel
theorem d_M_volume_86 : decode b_M_volume 86 = .ok (.getfield 22, 3) := by decide +kernel
theorem d_M_volume_89 : decode b_M_volume 89 = .ok (.iload 7, 2) := by decide +kernel
theorem d_M_volume_91 : decode b_M_volume 91 = .ok (.iaload, 1) := by decide +kernel
theorem d_M_volume_92 : decode b_M_volume 92 = .ok (.aload_n 0, 1) := by decide +kernel
theorem d_M_volume_93 : decode b_M_volume 93 = .ok (.getfield 22, 3) := by decide +kernel
theorem d_M_volume_96 : decode b_M_volume 96 = .ok (.iload_n 3, 1) := by decide +kernel
theorem d_M_volume_97 : decode b_M_volume 97 = .ok (.iaload, 1) := by decide +kernel
theorem d_M_volume_98 : decode b_M_volume 98 = .ok (.if_icmp .ge 6, 3) := by decide +kernel
theorem d_M_volume_101 : decode b_M_volume 101 = .ok (.iload 7, 2) := by decide +kernel
theorem d_M_volume_103 : decode b_M_volume 103 = .ok (.istore_n 3, 1) := by decide +kernel
theorem d_M_volume_104 : decode b_M_volume 104 = .ok (.iinc 7 1, 3) := by decide +kernel
theorem d_M_volume_107 : decode b_M_volume 107 = .ok (.goto (-58), 3) := by decide +kernel
theorem d_M_volume_110 : decode b_M_volume 110 = .ok (.iload_n 3, 1) := by decide +kernel
theorem d_M_volume_111 : decode b_M_volume 111 = .ok (.ifCond .lt 7, 3) := by decide +kernel
theorem d_M_volume_114 : decode b_M_volume 114 = .ok (.iconst 1, 1) := by decide +kernel
theorem d_M_volume_115 : decode b_M_volume 115 = .ok (.goto 4, 3) := by decide +kernel
theorem d_M_volume_118 : decode b_M_volume 118 = .ok (.iconst 0, 1) := by decide +kernel
theorem d_M_volume_119 : decode b_M_volume 119 = .ok (.istore 5, 2) := by decide +kernel
theorem d_M_volume_121 : decode b_M_volume 121 = .ok (.iload 5, 2) := by decide +kernel
theorem d_M_volume_123 : decode b_M_volume 123 = .ok (.ifCond .eq 12, 3) := by decide +kernel
theorem d_M_volume_126 : decode b_M_volume 126 = .ok (.aload_n 0, 1) := by decide +kernel
theorem d_M_volume_127 : decode b_M_volume 127 = .ok (.getfield 22, 3) := by decide +kernel
theorem d_M_volume_130 : decode b_M_volume 130 = .ok (.iload_n 3, 1) := by decide +kernel
theorem d_M_volume_131 : decode b_M_volume 131 = .ok (.iaload, 1) := by decide +kernel
theorem d_M_volume_132 : decode b_M_volume 132 = .ok (.goto 5, 3) := by decide +kernel
theorem d_M_volume_135 : decode b_M_volume 135 = .ok (.iload 4, 2) := by decide +kernel
theorem d_M_volume_137 : decode b_M_volume 137 = .ok (.istore 4, 2) := by decide +kernel
theorem d_M_volume_139 : decode b_M_volume 139 = .ok (.iinc 6 1, 3) := by decide +kernel
theorem d_M_volume_142 : decode b_M_volume 142 = .ok (.goto (-109), 3) := by decide +kernel
theorem d_M_volume_145 : decode b_M_volume 145 = .ok (.aload_n 0, 1) := by decide +kernel
theorem d_M_volume_146 : decode b_M_volume 146 = .ok (.iload 5, 2) := by decide +kernel
theorem d_M_volume_148 : decode b_M_volume 148 = .ok (.ifCond .eq 7, 3) := by decide +kernel
theorem d_M_volume_151 : decode b_M_volume 151 = .ok (.iconst 0, 1) := by decide +kernel
theorem d_M_volume_152 : decode b_M_volume 152 = .ok (.goto 4, 3) := by decide +kernel
theorem d_M_volume_155 : decode b_M_volume 155 = .ok (.iconst 1, 1) := by decide +kernel
theorem d_M_volume_156 : decode b_M_volume 156 = .ok (.putfield 92, 3) := by decide +kernel
theorem d_M_volume_159 : decode b_M_volume 159 = .ok (.iload 5, 2) := by decide +kernel
theorem d_M_volume_161 : decode b_M_volume 161 = .ok (.ifCond .eq 7, 3) := by decide +kernel
theorem d_M_volume_164 : decode b_M_volume 164 = .ok (.iload_n 3, 1) := by decide +kernel
theorem d_M_volume_165 : decode b_M_volume 165 = .ok (.goto 4, 3) := by decide +kernel
theorem d_M_volume_168 : decode b_M_volume 168 = .ok (.iconst 0, 1) := by decide +kernel
theorem d_M_volume_169 : decode b_M_volume 169 = .ok (.ireturn, 1) := by decide +kernel
theorem d_M_statement_0 : decode b_M_statement 0 = .ok (.aload_n 0, 1) := by decide +kernel
theorem d_M_statement_1 : decode b_M_statement 1 = .ok (.iconst 0, 1) := by decide +kernel
theorem d_M_statement_2 : decode b_M_statement 2 = .ok (.putfield 92, 3) := by decide +kernel
theorem d_M_statement_5 : decode b_M_statement 5 = .ok (.iload_n 1, 1) := by decide +kernel
theorem d_M_statement_6 : decode b_M_statement 6 = .ok (.iconst 0, 1) := by decide +kernel
theorem d_M_statement_7 : decode b_M_statement 7 = .ok (.bipush 9, 2) := by decide +kernel
theorem d_M_statement_9 : decode b_M_statement 9 = .ok (.invokestatic 97, 3) := by decide +kernel
theorem d_M_statement_12 : decode b_M_statement 12 = .ok (.ifCond .ne 5, 3) := by decide +kernel
theorem d_M_statement_15 : decode b_M_statement 15 = .ok (.iconst (-1), 1) := by decide +kernel
theorem d_M_statement_16 : decode b_M_statement 16 = .ok (.ireturn, 1) := by decide +kernel
theorem d_M_statement_17 : decode b_M_statement 17 = .ok (.aload_n 0, 1) := by decide +kernel
theorem d_M_statement_18 : decode b_M_statement 18 = .ok (.iconst 0, 1) := by decide +kernel
theorem d_M_statement_19 : decode b_M_statement 19 = .ok (.putfield 138, 3) := by decide +kernel
theorem d_M_statement_22 : decode b_M_statement 22 = .ok (.iconst 0, 1) := by decide +kernel
theorem d_M_statement_23 : decode b_M_statement 23 = .ok (.istore_n 2, 1) := by decide +kernel
theorem d_M_statement_24 : decode b_M_statement 24 = .ok (.aload_n 0, 1) := by decide +kernel
theorem d_M_statement_25 : decode b_M_statement 25 = .ok (.iload_n 1, 1) := by decide +kernel
theorem d_M_statement_26 : decode b_M_statement 26 = .ok (.iconst 0, 1) := by decide +kernel
theorem d_M_statement_27 : decode b_M_statement 27 = .ok (.invokevirtual 141, 3) := by decide +kernel
theorem d_M_statement_30 : decode b_M_statement 30 = .ok (.istore_n 3, 1) := by decide +kernel
theorem d_M_statement_31 : decode b_M_statement 31 = .ok (.iload_n 3, 1) := by decide +kernel
theorem d_M_statement_32 : decode b_M_statement 32 = .ok (.ifCond .lt 129, 3) := by decide +kernel
theorem d_M_statement_35 : decode b_M_statement 35 = .ok (.aload_n 0, 1) := by decide +kernel
theorem d_M_statement_36 : decode b_M_statement 36 = .ok (.iload_n 3, 1) := by decide +kernel
theorem d_M_statement_37 : decode b_M_statement 37 = .ok (.invokevirtual 144, 3) := by decide +kernel
theorem d_M_statement_40 : decode b_M_statement 40 = .ok (.ifCond .eq 42, 3) := by decide +kernel
theorem d_M_statement_43 : decode b_M_statement 43 = .ok (.iload_n 2, 1) := by decide +kernel
theorem d_M_statement_44 : decode b_M_statement 44 = .ok (.ifCond .eq 38, 3) := by decide +kernel
theorem d_M_statement_47 : decode b_M_statement 47 = .ok (.aload_n 0, 1) := by decide +kernel
theorem d_M_statement_48 : decode b_M_statement 48 = .ok (.getfield 80, 3) := by decide +kernel
theorem d_M_statement_51 : decode b_M_statement 51 = .ok (.aload_n 0, 1) := by decide +kernel
theorem d_M_statement_52 : decode b_M_statement 52 = .ok (.getfield 138, 3) := by decide +kernel
theorem d_M_statement_55 : decode b_M_statement 55 = .ok (.iconst 1, 1) := by decide +kernel
theorem d_M_statement_56 : decode b_M_statement 56 = .ok (.isub, 1) := by decide +kernel
theorem d_M_statement_57 : decode b_M_statement 57 = .ok (.aload_n 0, 1) := by decide +kernel
theorem d_M_statement_58 : decode b_M_statement 58 = .ok (.getfield 22, 3) := by decide +kernel
theorem d_M_statement_61 : decode b_M_statement 61 = .ok (.iload_n 3, 1) := by decide +kernel
theorem d_M_statement_62 : decode b_M_statement 62 = .ok (.iaload, 1) := by decide +kernel
theorem d_M_statement_63 : decode b_M_statement 63 = .ok (.iastore, 1) := by decide +kernel
theorem d_M_statement_64 : decode b_M_statement 64 = .ok (.aload_n 0, 1) := by decide +kernel
theorem d_M_statement_65 : decode b_M_statement 65 = .ok (.getfield 83, 3) := by decide +kernel
theorem d_M_statement_68 : decode b_M_statement 68 = .ok (.aload_n 0, 1) := by decide +kernel
theorem d_M_statement_69 : decode b_M_statement 69 = .ok (.getfield 138, 3) := by decide +kernel
theorem d_M_statement_72 : decode b_M_statement 72 = .ok (.iconst 1, 1) := by decide +kernel
theorem d_M_statement_73 : decode b_M_statement 73 = .ok (.isub, 1) := by decide +kernel
theorem d_M_statement_74 : decode b_M_statement 74 = .ok (.dup2, 1) := by decide +kernel
theorem d_M_statement_75 : decode b_M_statement 75 = .ok (.iaload, 1) := by decide +kernel
theorem d_M_statement_76 : decode b_M_statement 76 = .ok (.iconst 1, 1) := by decide +kernel
theorem d_M_statement_77 : decode b_M_statement 77 = .ok (.iadd, 1) := by decide +kernel
theorem d_M_statement_78 : decode b_M_statement 78 = .ok (.iastore, 1) := by decide +kernel
theorem d_M_statement_79 : decode b_M_statement 79 = .ok (.goto 61, 3) := by decide +kernel
theorem d_M_statement_82 : decode b_M_statement 82 = .ok (.aload_n 0, 1) := by decide +kernel
theorem d_M_statement_83 : decode b_M_statement 83 = .ok (.iload_n 3, 1) := by decide +kernel
theorem d_M_statement_84 : decode b_M_statement 84 = .ok (.invokevirtual 144, 3) := by decide +kernel
theorem d_M_statement_87 : decode b_M_statement 87 = .ok (.ifCond .eq 53, 3) := by decide +kernel
theorem d_M_statement_90 : decode b_M_statement 90 = .ok (.aload_n 0, 1) := by decide +kernel
theorem d_M_statement_91 : decode b_M_statement 91 = .ok (.getfield 77, 3) := by decide +kernel
theorem d_M_statement_94 : decode b_M_statement 94 = .ok (.aload_n 0, 1) := by decide +kernel
theorem d_M_statement_95 : decode b_M_statement 95 = .ok (.getfield 138, 3) := by decide +kernel
theorem d_M_statement_98 : decode b_M_statement 98 = .ok (.aload_n 0, 1) := by decide +kernel
theorem d_M_statement_99 : decode b_M_statement 99 = .ok (.getfield 22, 3) := by decide +kernel
theorem d_M_statement_102 : decode b_M_statement 102 = .ok (.iload_n 3, 1) := by decide +kernel
theorem d_M_statement_103 : decode b_M_statement 103 = .ok (.iaload, 1) := by decide +kernel
theorem d_M_statement_104 : decode b_M_statement 104 = .ok (.iastore, 1) := by decide +kernel
theorem d_M_statement_105 : decode b_M_statement 105 = .ok (.aload_n 0, 1) := by decide +kernel
theorem d_M_statement_106 : decode b_M_statement 106 = .ok (.getfield 80, 3) := by decide +kernel
theorem d_M_statement_109 : decode b_M_statement 109 = .ok (.aload_n 0, 1) := by decide +kernel
theorem d_M_statement_110 : decode b_M_statement 110 = .ok (.getfield 138, 3) := by decide +kernel
theorem d_M_statement_113 : decode b_M_statement 113 = .ok (.aload_n 0, 1) := by decide +kernel
theorem d_M_statement_114 : decode b_M_statement 114 = .ok (.getfield 22, 3) := by decide +kernel
theorem d_M_statement_117 : decode b_M_statement 117 = .ok (.iload_n 3, 1) := by decide +kernel
theorem d_M_statement_118 : decode b_M_statement 118 = .ok (.iaload, 1) := by decide +kernel
theorem d_M_statement_119 : decode b_M_statement 119 = .ok (.iastore, 1) := by decide +kernel
theorem d_M_statement_120 : decode b_M_statement 120 = .ok (.aload_n 0, 1) := by decide +kernel
theorem d_M_statement_121 : decode b_M_statement 121 = .ok (.getfield 83, 3) := by decide +kernel
theorem d_M_statement_124 : decode b_M_statement 124 = .ok (.aload_n 0, 1) := by decide +kernel
theorem d_M_statement_125 : decode b_M_statement 125 = .ok (.getfield 138, 3) := by decide +kernel
theorem d_M_statement_128 : decode b_M_statement 128 = .ok (.iconst 1, 1) := by decide +kernel
theorem d_M_statement_129 : decode b_M_statement 129 = .ok (.iastore, 1) := by decide +kernel
theorem d_M_statement_130 : decode b_M_statement 130 = .ok (.aload_n 0, 1) := by decide +kernel
theorem d_M_statement_131 : decode b_M_statement 131 = .ok (.dup, 1) := by decide +kernel
theorem d_M_statement_132 : decode b_M_statement 132 = .ok (.getfield 138, 3) := by decide +kernel
theorem d_M_statement_135 : decode b_M_statement 135 = .ok (.iconst 1, 1) := by decide +kernel
theorem d_M_statement_136 : decode b_M_statement 136 = .ok (.iadd, 1) := by decide +kernel
theorem d_M_statement_137 : decode b_M_statement 137 = .ok (.putfield 138, 3) := by decide +kernel
theorem d_M_statement_140 : decode b_M_statement 140 = .ok (.aload_n 0, 1) := by decide +kernel
theorem d_M_statement_141 : decode b_M_statement 141 = .ok (.iload_n 3, 1) := by decide +kernel
theorem d_M_statement_142 : decode b_M_statement 142 = .ok (.invokevirtual 144, 3) := by decide +kernel
theorem d_M_statement_145 : decode b_M_statement 145 = .ok (.istore_n 2, 1) := by decide +kernel
theorem d_M_statement_146 : decode b_M_statement 146 = .ok (.aload_n 0, 1) := by decide +kernel
theorem d_M_statement_147 : decode b_M_statement 147 = .ok (.iload_n 1, 1) := by decide +kernel
theorem d_M_statement_148 : decode b_M_statement 148 = .ok (.aload_n 0, 1) := by decide +kernel
theorem d_M_statement_149 : decode b_M_statement 149 = .ok (.getfield 22, 3) := by decide +kernel
theorem d_M_statement_152 : decode b_M_statement 152 = .ok (.iload_n 3, 1) := by decide +kernel
theorem d_M_statement_153 : decode b_M_statement 153 = .ok (.iaload, 1) := by decide +kernel
theorem d_M_statement_154 : decode b_M_statement 154 = .ok (.invokevirtual 141, 3) := by decide +kernel
theorem d_M_statement_157 : decode b_M_statement 157 = .ok (.istore_n 3, 1) := by decide +kernel
theorem d_M_statement_158 : decode b_M_statement 158 = .ok (.goto (-127), 3) := by decide +kernel
theorem d_M_statement_161 : decode b_M_statement 161 = .ok (.aload_n 0, 1) := by decide +kernel
theorem d_M_statement_162 : decode b_M_statement 162 = .ok (.getfield 138, 3) := by decide +kernel
theorem d_M_statement_165 : decode b_M_statement 165 = .ok (.ireturn, 1) := by decide +kernel
theorem d_M_next_0 : decode b_M_next 0 = .ok (.iconst (-1), 1) := by decide +kernel
theorem d_M_next_1 : decode b_M_next 1 = .ok (.istore_n 3, 1) := by decide +kernel
theorem d_M_next_2 : decode b_M_next 2 = .ok (.iconst 0, 1) := by decide +kernel
theorem d_M_next_3 : decode b_M_next 3 = .ok (.istore 4, 2) := by decide +kernel
theorem d_M_next_5 : decode b_M_next 5 = .ok (.iload 4, 2) := by decide +kernel
theorem d_M_next_7 : decode b_M_next 7 = .ok (.aload_n 0, 1) := by decide +kernel
theorem d_M_next_8 : decode b_M_next 8 = .ok (.getfield 101, 3) := by decide +kernel
theorem d_M_next_11 : decode b_M_next 11 = .ok (.if_icmp .ge 69, 3) := by decide +kernel
theorem d_M_next_14 : decode b_M_next 14 = .ok (.aload_n 0, 1) := by decide +kernel
theorem d_M_next_15 : decode b_M_next 15 = .ok (.getfield 19, 3) := by decide +kernel
theorem d_M_next_18 : decode b_M_next 18 = .ok (.iload 4, 2) := by decide +kernel
theorem d_M_next_20 : decode b_M_next 20 = .ok (.iaload, 1) := by decide +kernel
theorem d_M_next_21 : decode b_M_next 21 = .ok (.iload_n 1, 1) := by decide +kernel
theorem d_M_next_22 : decode b_M_next 22 = .ok (.if_icmp .ne 52, 3) := by decide +kernel
theorem d_M_next_25 : decode b_M_next 25 = .ok (.aload_n 0, 1) := by decide +kernel
theorem d_M_next_26 : decode b_M_next 26 = .ok (.getfield 25, 3) := by decide +kernel
theorem d_M_next_29 : decode b_M_next 29 = .ok (.iload 4, 2) := by decide +kernel
theorem d_M_next_31 : decode b_M_next 31 = .ok (.iaload, 1) := by decide +kernel
theorem d_M_next_32 : decode b_M_next 32 = .ok (.bipush 6, 2) := by decide +kernel
theorem d_M_next_34 : decode b_M_next 34 = .ok (.if_icmp .eq 40, 3) := by decide +kernel
theorem d_M_next_37 : decode b_M_next 37 = .ok (.aload_n 0, 1) := by decide +kernel
theorem d_M_next_38 : decode b_M_next 38 = .ok (.getfield 22, 3) := by decide +kernel
theorem d_M_next_41 : decode b_M_next 41 = .ok (.iload 4, 2) := by decide +kernel
theorem d_M_next_43 : decode b_M_next 43 = .ok (.iaload, 1) := by decide +kernel
theorem d_M_next_44 : decode b_M_next 44 = .ok (.iload_n 2, 1) := by decide +kernel
theorem d_M_next_45 : decode b_M_next 45 = .ok (.if_icmp .gt 6, 3) := by decide +kernel
theorem d_M_next_48 : decode b_M_next 48 = .ok (.goto 26, 3) := by decide +kernel
theorem d_M_next_51 : decode b_M_next 51 = .ok (.iload_n 3, 1) := by decide +kernel
theorem d_M_next_52 : decode b_M_next 52 = .ok (.ifCond .lt 19, 3) := by decide +kernel
theorem d_M_next_55 : decode b_M_next 55 = .ok (.aload_n 0, 1) := by decide +kernel
theorem d_M_next_56 : decode b_M_next 56 = .ok (.getfield 22, 3) := by decide +kernel
theorem d_M_next_59 : decode b_M_next 59 = .ok (.iload 4, 2) := by decide +kernel
theorem d_M_next_61 : decode b_M_next 61 = .ok (.iaload, 1) := by decide +kernel
theorem d_M_next_62 : decode b_M_next 62 = .ok (.aload_n 0, 1) := by decide +kernel
theorem d_M_next_63 : decode b_M_next 63 = .ok (.getfield 22, 3) := by decide +kernel
theorem d_M_next_66 : decode b_M_next 66 = .ok (.iload_n 3, 1) := by decide +kernel
theorem d_M_next_67 : decode b_M_next 67 = .ok (.iaload, 1) := by decide +kernel
theorem d_M_next_68 : decode b_M_next 68 = .ok (.if_icmp .ge 6, 3) := by decide +kernel
theorem d_M_next_71 : decode b_M_next 71 = .ok (.iload 4, 2) := by decide +kernel
theorem d_M_next_73 : decode b_M_next 73 = .ok (.istore_n 3, 1) := by decide +kernel
theorem d_M_next_74 : decode b_M_next 74 = .ok (.iinc 4 1, 3) := by decide +kernel
theorem d_M_next_77 : decode b_M_next 77 = .ok (.goto (-72), 3) := by decide +kernel
theorem d_M_next_80 : decode b_M_next 80 = .ok (.iload_n 3, 1) := by decide +kernel
theorem d_M_next_81 : decode b_M_next 81 = .ok (.ireturn, 1) := by decide +kernel
theorem d_M_stands_0 : decode b_M_stands 0 = .ok (.aload_n 0, 1) := by decide +kernel
theorem d_M_stands_1 : decode b_M_stands 1 = .ok (.getfield 25, 3) := by decide +kernel
theorem d_M_stands_4 : decode b_M_stands 4 = .ok (.iload_n 1, 1) := by decide +kernel
theorem d_M_stands_5 : decode b_M_stands 5 = .ok (.iaload, 1) := by decide +kernel
theorem d_M_stands_6 : decode b_M_stands 6 = .ok (.iconst 3, 1) := by decide +kernel
theorem d_M_stands_7 : decode b_M_stands 7 = .ok (.if_icmp .eq 13, 3) := by decide +kernel
theorem d_M_stands_10 : decode b_M_stands 10 = .ok (.aload_n 0, 1) := by decide +kernel
theorem d_M_stands_11 : decode b_M_stands 11 = .ok (.getfield 25, 3) := by decide +kernel
theorem d_M_stands_14 : decode b_M_stands 14 = .ok (.iload_n 1, 1) := by decide +kernel
theorem d_M_stands_15 : decode b_M_stands 15 = .ok (.iaload, 1) := by decide +kernel
theorem d_M_stands_16 : decode b_M_stands 16 = .ok (.iconst 5, 1) := by decide +kernel
theorem d_M_stands_17 : decode b_M_stands 17 = .ok (.if_icmp .ne 7, 3) := by decide +kernel
theorem d_M_stands_20 : decode b_M_stands 20 = .ok (.iconst 1, 1) := by decide +kernel
theorem d_M_stands_21 : decode b_M_stands 21 = .ok (.goto 4, 3) := by decide +kernel
theorem d_M_stands_24 : decode b_M_stands 24 = .ok (.iconst 0, 1) := by decide +kernel
theorem d_M_stands_25 : decode b_M_stands 25 = .ok (.ireturn, 1) := by decide +kernel
theorem d_M_row_0 : decode b_M_row 0 = .ok (.aload_n 0, 1) := by decide +kernel
theorem d_M_row_1 : decode b_M_row 1 = .ok (.iload_n 1, 1) := by decide +kernel
theorem d_M_row_2 : decode b_M_row 2 = .ok (.iconst 0, 1) := by decide +kernel
theorem d_M_row_3 : decode b_M_row 3 = .ok (.aload_n 0, 1) := by decide +kernel
theorem d_M_row_4 : decode b_M_row 4 = .ok (.getfield 138, 3) := by decide +kernel
theorem d_M_row_7 : decode b_M_row 7 = .ok (.iconst 1, 1) := by decide +kernel
theorem d_M_row_8 : decode b_M_row 8 = .ok (.isub, 1) := by decide +kernel
theorem d_M_row_9 : decode b_M_row 9 = .ok (.invokestatic 97, 3) := by decide +kernel
theorem d_M_row_12 : decode b_M_row 12 = .ok (.ifCond .eq 12, 3) := by decide +kernel
theorem d_M_row_15 : decode b_M_row 15 = .ok (.iload_n 2, 1) := by decide +kernel
theorem d_M_row_16 : decode b_M_row 16 = .ok (.iconst 0, 1) := by decide +kernel
theorem d_M_row_17 : decode b_M_row 17 = .ok (.iconst 3, 1) := by decide +kernel
theorem d_M_row_18 : decode b_M_row 18 = .ok (.invokestatic 97, 3) := by decide +kernel
theorem d_M_row_21 : decode b_M_row 21 = .ok (.ifCond .ne 7, 3) := by decide +kernel
theorem d_M_row_24 : decode b_M_row 24 = .ok (.iconst 1, 1) := by decide +kernel
theorem d_M_row_25 : decode b_M_row 25 = .ok (.goto 4, 3) := by decide +kernel
theorem d_M_row_28 : decode b_M_row 28 = .ok (.iconst 0, 1) := by decide +kernel
theorem d_M_row_29 : decode b_M_row 29 = .ok (.putfield 92, 3) := by decide +kernel
theorem d_M_row_32 : decode b_M_row 32 = .ok (.aload_n 0, 1) := by decide +kernel
theorem d_M_row_33 : decode b_M_row 33 = .ok (.getfield 92, 3) := by decide +kernel
theorem d_M_row_36 : decode b_M_row 36 = .ok (.ifCond .le 5, 3) := by decide +kernel
theorem d_M_row_39 : decode b_M_row 39 = .ok (.iconst 0, 1) := by decide +kernel
theorem d_M_row_40 : decode b_M_row 40 = .ok (.ireturn, 1) := by decide +kernel
theorem d_M_row_41 : decode b_M_row 41 = .ok (.iload_n 2, 1) := by decide +kernel
theorem d_M_row_42 : decode b_M_row 42 = .ok (.ifCond .ne 12, 3) := by decide +kernel
theorem d_M_row_45 : decode b_M_row 45 = .ok (.aload_n 0, 1) := by decide +kernel
theorem d_M_row_46 : decode b_M_row 46 = .ok (.getfield 77, 3) := by decide +kernel
theorem d_M_row_49 : decode b_M_row 49 = .ok (.iload_n 1, 1) := by decide +kernel
theorem d_M_row_50 : decode b_M_row 50 = .ok (.iaload, 1) := by decide +kernel
theorem d_M_row_51 : decode b_M_row 51 = .ok (.goto 46, 3) := by decide +kernel
theorem d_M_row_54 : decode b_M_row 54 = .ok (.iload_n 2, 1) := by decide +kernel
theorem d_M_row_55 : decode b_M_row 55 = .ok (.iconst 1, 1) := by decide +kernel
theorem d_M_row_56 : decode b_M_row 56 = .ok (.if_icmp .ne 12, 3) := by decide +kernel
theorem d_M_row_59 : decode b_M_row 59 = .ok (.aload_n 0, 1) := by decide +kernel
theorem d_M_row_60 : decode b_M_row 60 = .ok (.getfield 80, 3) := by decide +kernel
theorem d_M_row_63 : decode b_M_row 63 = .ok (.iload_n 1, 1) := by decide +kernel
theorem d_M_row_64 : decode b_M_row 64 = .ok (.iaload, 1) := by decide +kernel
theorem d_M_row_65 : decode b_M_row 65 = .ok (.goto 32, 3) := by decide +kernel
theorem d_M_row_68 : decode b_M_row 68 = .ok (.iload_n 2, 1) := by decide +kernel
theorem d_M_row_69 : decode b_M_row 69 = .ok (.iconst 2, 1) := by decide +kernel
theorem d_M_row_70 : decode b_M_row 70 = .ok (.if_icmp .ne 12, 3) := by decide +kernel
theorem d_M_row_73 : decode b_M_row 73 = .ok (.aload_n 0, 1) := by decide +kernel
theorem d_M_row_74 : decode b_M_row 74 = .ok (.getfield 83, 3) := by decide +kernel
theorem d_M_row_77 : decode b_M_row 77 = .ok (.iload_n 1, 1) := by decide +kernel
theorem d_M_row_78 : decode b_M_row 78 = .ok (.iaload, 1) := by decide +kernel
theorem d_M_row_79 : decode b_M_row 79 = .ok (.goto 18, 3) := by decide +kernel
theorem d_M_row_82 : decode b_M_row 82 = .ok (.iload_n 1, 1) := by decide +kernel
theorem d_M_row_83 : decode b_M_row 83 = .ok (.aload_n 0, 1) := by decide +kernel
theorem d_M_row_84 : decode b_M_row 84 = .ok (.getfield 138, 3) := by decide +kernel
theorem d_M_row_87 : decode b_M_row 87 = .ok (.iconst 1, 1) := by decide +kernel
theorem d_M_row_88 : decode b_M_row 88 = .ok (.isub, 1) := by decide +kernel
theorem d_M_row_89 : decode b_M_row 89 = .ok (.if_icmp .ge 7, 3) := by decide +kernel
theorem d_M_row_92 : decode b_M_row 92 = .ok (.iconst 1, 1) := by decide +kernel
theorem d_M_row_93 : decode b_M_row 93 = .ok (.goto 4, 3) := by decide +kernel
theorem d_M_row_96 : decode b_M_row 96 = .ok (.iconst 0, 1) := by decide +kernel
theorem d_M_row_97 : decode b_M_row 97 = .ok (.ireturn, 1) := by decide +kernel
theorem d_M_about_0 : decode b_M_about 0 = .ok (.aload_n 0, 1) := by decide +kernel
theorem d_M_about_1 : decode b_M_about 1 = .ok (.iconst 0, 1) := by decide +kernel
theorem d_M_about_2 : decode b_M_about 2 = .ok (.putfield 92, 3) := by decide +kernel
theorem d_M_about_5 : decode b_M_about 5 = .ok (.aload_n 0, 1) := by decide +kernel
theorem d_M_about_6 : decode b_M_about 6 = .ok (.iload_n 1, 1) := by decide +kernel
theorem d_M_about_7 : decode b_M_about 7 = .ok (.invokevirtual 115, 3) := by decide +kernel
theorem d_M_about_10 : decode b_M_about 10 = .ok (.ifCond .ne 5, 3) := by decide +kernel
theorem d_M_about_13 : decode b_M_about 13 = .ok (.iconst (-1), 1) := by decide +kernel
theorem d_M_about_14 : decode b_M_about 14 = .ok (.ireturn, 1) := by decide +kernel
theorem d_M_about_15 : decode b_M_about 15 = .ok (.iload_n 2, 1) := by decide +kernel
theorem d_M_about_16 : decode b_M_about 16 = .ok (.tableswitch 159 0 10 #[60, 67, 74, 81, 88, 95, 102, 109, 138, 145, 152], 60) := by decide +kernel
theorem d_M_about_76 : decode b_M_about 76 = .ok (.aload_n 0, 1) := by decide +kernel
theorem d_M_about_77 : decode b_M_about 77 = .ok (.getfield 19, 3) := by decide +kernel
theorem d_M_about_80 : decode b_M_about 80 = .ok (.iload_n 1, 1) := by decide +kernel
theorem d_M_about_81 : decode b_M_about 81 = .ok (.iaload, 1) := by decide +kernel
theorem d_M_about_82 : decode b_M_about 82 = .ok (.ireturn, 1) := by decide +kernel
theorem d_M_about_83 : decode b_M_about 83 = .ok (.aload_n 0, 1) := by decide +kernel
theorem d_M_about_84 : decode b_M_about 84 = .ok (.getfield 22, 3) := by decide +kernel
theorem d_M_about_87 : decode b_M_about 87 = .ok (.iload_n 1, 1) := by decide +kernel
theorem d_M_about_88 : decode b_M_about 88 = .ok (.iaload, 1) := by decide +kernel
theorem d_M_about_89 : decode b_M_about 89 = .ok (.ireturn, 1) := by decide +kernel
theorem d_M_about_90 : decode b_M_about 90 = .ok (.aload_n 0, 1) := by decide +kernel
theorem d_M_about_91 : decode b_M_about 91 = .ok (.getfield 25, 3) := by decide +kernel
theorem d_M_about_94 : decode b_M_about 94 = .ok (.iload_n 1, 1) := by decide +kernel
theorem d_M_about_95 : decode b_M_about 95 = .ok (.iaload, 1) := by decide +kernel
theorem d_M_about_96 : decode b_M_about 96 = .ok (.ireturn, 1) := by decide +kernel
theorem d_M_about_97 : decode b_M_about 97 = .ok (.aload_n 0, 1) := by decide +kernel
theorem d_M_about_98 : decode b_M_about 98 = .ok (.getfield 28, 3) := by decide +kernel
theorem d_M_about_101 : decode b_M_about 101 = .ok (.iload_n 1, 1) := by decide +kernel
theorem d_M_about_102 : decode b_M_about 102 = .ok (.iaload, 1) := by decide +kernel
theorem d_M_about_103 : decode b_M_about 103 = .ok (.ireturn, 1) := by decide +kernel
theorem d_M_about_104 : decode b_M_about 104 = .ok (.aload_n 0, 1) := by decide +kernel
