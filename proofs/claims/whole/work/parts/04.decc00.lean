theorem d_M_init_0 : decode b_M_init 0 = .ok (.aload_n 0, 1) := by decide +kernel
theorem d_M_init_1 : decode b_M_init 1 = .ok (.invokespecial 1, 3) := by decide +kernel
theorem d_M_init_4 : decode b_M_init 4 = .ok (.aload_n 0, 1) := by decide +kernel
theorem d_M_init_5 : decode b_M_init 5 = .ok (.bipush 10, 2) := by decide +kernel
theorem d_M_init_7 : decode b_M_init 7 = .ok (.newarray .int, 2) := by decide +kernel
theorem d_M_init_9 : decode b_M_init 9 = .ok (.putfield 7, 3) := by decide +kernel
theorem d_M_init_12 : decode b_M_init 12 = .ok (.aload_n 0, 1) := by decide +kernel
theorem d_M_init_13 : decode b_M_init 13 = .ok (.bipush 10, 2) := by decide +kernel
theorem d_M_init_15 : decode b_M_init 15 = .ok (.newarray .int, 2) := by decide +kernel
theorem d_M_init_17 : decode b_M_init 17 = .ok (.putfield 13, 3) := by decide +kernel
theorem d_M_init_20 : decode b_M_init 20 = .ok (.aload_n 0, 1) := by decide +kernel
theorem d_M_init_21 : decode b_M_init 21 = .ok (.bipush 10, 2) := by decide +kernel
theorem d_M_init_23 : decode b_M_init 23 = .ok (.newarray .int, 2) := by decide +kernel
theorem d_M_init_25 : decode b_M_init 25 = .ok (.putfield 16, 3) := by decide +kernel
theorem d_M_init_28 : decode b_M_init 28 = .ok (.aload_n 0, 1) := by decide +kernel
theorem d_M_init_29 : decode b_M_init 29 = .ok (.sipush 200, 3) := by decide +kernel
theorem d_M_init_32 : decode b_M_init 32 = .ok (.newarray .int, 2) := by decide +kernel
theorem d_M_init_34 : decode b_M_init 34 = .ok (.putfield 19, 3) := by decide +kernel
theorem d_M_init_37 : decode b_M_init 37 = .ok (.aload_n 0, 1) := by decide +kernel
theorem d_M_init_38 : decode b_M_init 38 = .ok (.sipush 200, 3) := by decide +kernel
theorem d_M_init_41 : decode b_M_init 41 = .ok (.newarray .int, 2) := by decide +kernel
theorem d_M_init_43 : decode b_M_init 43 = .ok (.putfield 22, 3) := by decide +kernel
theorem d_M_init_46 : decode b_M_init 46 = .ok (.aload_n 0, 1) := by decide +kernel
theorem d_M_init_47 : decode b_M_init 47 = .ok (.sipush 200, 3) := by decide +kernel
theorem d_M_init_50 : decode b_M_init 50 = .ok (.newarray .int, 2) := by decide +kernel
theorem d_M_init_52 : decode b_M_init 52 = .ok (.putfield 25, 3) := by decide +kernel
theorem d_M_init_55 : decode b_M_init 55 = .ok (.aload_n 0, 1) := by decide +kernel
theorem d_M_init_56 : decode b_M_init 56 = .ok (.sipush 200, 3) := by decide +kernel
theorem d_M_init_59 : decode b_M_init 59 = .ok (.newarray .int, 2) := by decide +kernel
theorem d_M_init_61 : decode b_M_init 61 = .ok (.putfield 28, 3) := by decide +kernel
theorem d_M_init_64 : decode b_M_init 64 = .ok (.aload_n 0, 1) := by decide +kernel
theorem d_M_init_65 : decode b_M_init 65 = .ok (.sipush 200, 3) := by decide +kernel
theorem d_M_init_68 : decode b_M_init 68 = .ok (.newarray .int, 2) := by decide +kernel
theorem d_M_init_70 : decode b_M_init 70 = .ok (.putfield 31, 3) := by decide +kernel
theorem d_M_init_73 : decode b_M_init 73 = .ok (.aload_n 0, 1) := by decide +kernel
theorem d_M_init_74 : decode b_M_init 74 = .ok (.sipush 200, 3) := by decide +kernel
theorem d_M_init_77 : decode b_M_init 77 = .ok (.newarray .int, 2) := by decide +kernel
theorem d_M_init_79 : decode b_M_init 79 = .ok (.putfield 34, 3) := by decide +kernel
theorem d_M_init_82 : decode b_M_init 82 = .ok (.aload_n 0, 1) := by decide +kernel
theorem d_M_init_83 : decode b_M_init 83 = .ok (.sipush 200, 3) := by decide +kernel
theorem d_M_init_86 : decode b_M_init 86 = .ok (.newarray .int, 2) := by decide +kernel
theorem d_M_init_88 : decode b_M_init 88 = .ok (.putfield 37, 3) := by decide +kernel
theorem d_M_init_91 : decode b_M_init 91 = .ok (.aload_n 0, 1) := by decide +kernel
theorem d_M_init_92 : decode b_M_init 92 = .ok (.sipush 200, 3) := by decide +kernel
theorem d_M_init_95 : decode b_M_init 95 = .ok (.newarray .int, 2) := by decide +kernel
theorem d_M_init_97 : decode b_M_init 97 = .ok (.putfield 40, 3) := by decide +kernel
theorem d_M_init_100 : decode b_M_init 100 = .ok (.aload_n 0, 1) := by decide +kernel
theorem d_M_init_101 : decode b_M_init 101 = .ok (.sipush 200, 3) := by decide +kernel
theorem d_M_init_104 : decode b_M_init 104 = .ok (.newarray .int, 2) := by decide +kernel
theorem d_M_init_106 : decode b_M_init 106 = .ok (.putfield 43, 3) := by decide +kernel
theorem d_M_init_109 : decode b_M_init 109 = .ok (.aload_n 0, 1) := by decide +kernel
theorem d_M_init_110 : decode b_M_init 110 = .ok (.sipush 200, 3) := by decide +kernel
theorem d_M_init_113 : decode b_M_init 113 = .ok (.newarray .int, 2) := by decide +kernel
theorem d_M_init_115 : decode b_M_init 115 = .ok (.putfield 46, 3) := by decide +kernel
theorem d_M_init_118 : decode b_M_init 118 = .ok (.aload_n 0, 1) := by decide +kernel
theorem d_M_init_119 : decode b_M_init 119 = .ok (.sipush 200, 3) := by decide +kernel
theorem d_M_init_122 : decode b_M_init 122 = .ok (.newarray .int, 2) := by decide +kernel
theorem d_M_init_124 : decode b_M_init 124 = .ok (.putfield 49, 3) := by decide +kernel
theorem d_M_init_127 : decode b_M_init 127 = .ok (.aload_n 0, 1) := by decide +kernel
theorem d_M_init_128 : decode b_M_init 128 = .ok (.sipush 200, 3) := by decide +kernel
theorem d_M_init_131 : decode b_M_init 131 = .ok (.newarray .boolean, 2) := by decide +kernel
theorem d_M_init_133 : decode b_M_init 133 = .ok (.putfield 52, 3) := by decide +kernel
theorem d_M_init_136 : decode b_M_init 136 = .ok (.aload_n 0, 1) := by decide +kernel
theorem d_M_init_137 : decode b_M_init 137 = .ok (.sipush 200, 3) := by decide +kernel
theorem d_M_init_140 : decode b_M_init 140 = .ok (.newarray .int, 2) := by decide +kernel
theorem d_M_init_142 : decode b_M_init 142 = .ok (.putfield 56, 3) := by decide +kernel
theorem d_M_init_145 : decode b_M_init 145 = .ok (.aload_n 0, 1) := by decide +kernel
theorem d_M_init_146 : decode b_M_init 146 = .ok (.sipush 1600, 3) := by decide +kernel
theorem d_M_init_149 : decode b_M_init 149 = .ok (.newarray .int, 2) := by decide +kernel
theorem d_M_init_151 : decode b_M_init 151 = .ok (.putfield 59, 3) := by decide +kernel
theorem d_M_init_154 : decode b_M_init 154 = .ok (.aload_n 0, 1) := by decide +kernel
theorem d_M_init_155 : decode b_M_init 155 = .ok (.sipush 1600, 3) := by decide +kernel
theorem d_M_init_158 : decode b_M_init 158 = .ok (.newarray .int, 2) := by decide +kernel
theorem d_M_init_160 : decode b_M_init 160 = .ok (.putfield 62, 3) := by decide +kernel
theorem d_M_init_163 : decode b_M_init 163 = .ok (.aload_n 0, 1) := by decide +kernel
theorem d_M_init_164 : decode b_M_init 164 = .ok (.sipush 200, 3) := by decide +kernel
theorem d_M_init_167 : decode b_M_init 167 = .ok (.newarray .int, 2) := by decide +kernel
theorem d_M_init_169 : decode b_M_init 169 = .ok (.putfield 65, 3) := by decide +kernel
theorem d_M_init_172 : decode b_M_init 172 = .ok (.aload_n 0, 1) := by decide +kernel
theorem d_M_init_173 : decode b_M_init 173 = .ok (.sipush 200, 3) := by decide +kernel
theorem d_M_init_176 : decode b_M_init 176 = .ok (.newarray .int, 2) := by decide +kernel
theorem d_M_init_178 : decode b_M_init 178 = .ok (.putfield 68, 3) := by decide +kernel
theorem d_M_init_181 : decode b_M_init 181 = .ok (.aload_n 0, 1) := by decide +kernel
theorem d_M_init_182 : decode b_M_init 182 = .ok (.sipush 200, 3) := by decide +kernel
theorem d_M_init_185 : decode b_M_init 185 = .ok (.newarray .int, 2) := by decide +kernel
theorem d_M_init_187 : decode b_M_init 187 = .ok (.putfield 71, 3) := by decide +kernel
theorem d_M_init_190 : decode b_M_init 190 = .ok (.aload_n 0, 1) := by decide +kernel
theorem d_M_init_191 : decode b_M_init 191 = .ok (.sipush 200, 3) := by decide +kernel
theorem d_M_init_194 : decode b_M_init 194 = .ok (.newarray .int, 2) := by decide +kernel
theorem d_M_init_196 : decode b_M_init 196 = .ok (.putfield 74, 3) := by decide +kernel
theorem d_M_init_199 : decode b_M_init 199 = .ok (.aload_n 0, 1) := by decide +kernel
theorem d_M_init_200 : decode b_M_init 200 = .ok (.sipush 200, 3) := by decide +kernel
theorem d_M_init_203 : decode b_M_init 203 = .ok (.newarray .int, 2) := by decide +kernel
theorem d_M_init_205 : decode b_M_init 205 = .ok (.putfield 77, 3) := by decide +kernel
theorem d_M_init_208 : decode b_M_init 208 = .ok (.aload_n 0, 1) := by decide +kernel
theorem d_M_init_209 : decode b_M_init 209 = .ok (.sipush 200, 3) := by decide +kernel
theorem d_M_init_212 : decode b_M_init 212 = .ok (.newarray .int, 2) := by decide +kernel
theorem d_M_init_214 : decode b_M_init 214 = .ok (.putfield 80, 3) := by decide +kernel
theorem d_M_init_217 : decode b_M_init 217 = .ok (.aload_n 0, 1) := by decide +kernel
theorem d_M_init_218 : decode b_M_init 218 = .ok (.sipush 200, 3) := by decide +kernel
theorem d_M_init_221 : decode b_M_init 221 = .ok (.newarray .int, 2) := by decide +kernel
theorem d_M_init_223 : decode b_M_init 223 = .ok (.putfield 83, 3) := by decide +kernel
theorem d_M_init_226 : decode b_M_init 226 = .ok (.aload_n 0, 1) := by decide +kernel
theorem d_M_init_227 : decode b_M_init 227 = .ok (.bipush 100, 2) := by decide +kernel
theorem d_M_init_229 : decode b_M_init 229 = .ok (.newarray .int, 2) := by decide +kernel
theorem d_M_init_231 : decode b_M_init 231 = .ok (.putfield 86, 3) := by decide +kernel
theorem d_M_init_234 : decode b_M_init 234 = .ok (.aload_n 0, 1) := by decide +kernel
theorem d_M_init_235 : decode b_M_init 235 = .ok (.bipush 100, 2) := by decide +kernel
theorem d_M_init_237 : decode b_M_init 237 = .ok (.newarray .int, 2) := by decide +kernel
theorem d_M_init_239 : decode b_M_init 239 = .ok (.putfield 89, 3) := by decide +kernel
theorem d_M_init_242 : decode b_M_init 242 = .ok (.iconst 0, 1) := by decide +kernel
theorem d_M_init_243 : decode b_M_init 243 = .ok (.istore_n 1, 1) := by decide +kernel
theorem d_M_init_244 : decode b_M_init 244 = .ok (.iload_n 1, 1) := by decide +kernel
theorem d_M_init_245 : decode b_M_init 245 = .ok (.bipush 10, 2) := by decide +kernel
theorem d_M_init_247 : decode b_M_init 247 = .ok (.if_icmp .ge 32, 3) := by decide +kernel
theorem d_M_init_250 : decode b_M_init 250 = .ok (.aload_n 0, 1) := by decide +kernel
theorem d_M_init_251 : decode b_M_init 251 = .ok (.getfield 7, 3) := by decide +kernel
theorem d_M_init_254 : decode b_M_init 254 = .ok (.iload_n 1, 1) := by decide +kernel
theorem d_M_init_255 : decode b_M_init 255 = .ok (.bipush 30, 2) := by decide +kernel
theorem d_M_init_257 : decode b_M_init 257 = .ok (.iastore, 1) := by decide +kernel
theorem d_M_init_258 : decode b_M_init 258 = .ok (.aload_n 0, 1) := by decide +kernel
theorem d_M_init_259 : decode b_M_init 259 = .ok (.getfield 13, 3) := by decide +kernel
theorem d_M_init_262 : decode b_M_init 262 = .ok (.iload_n 1, 1) := by decide +kernel
theorem d_M_init_263 : decode b_M_init 263 = .ok (.bipush 20, 2) := by decide +kernel
theorem d_M_init_265 : decode b_M_init 265 = .ok (.iastore, 1) := by decide +kernel
theorem d_M_init_266 : decode b_M_init 266 = .ok (.aload_n 0, 1) := by decide +kernel
theorem d_M_init_267 : decode b_M_init 267 = .ok (.getfield 16, 3) := by decide +kernel
theorem d_M_init_270 : decode b_M_init 270 = .ok (.iload_n 1, 1) := by decide +kernel
theorem d_M_init_271 : decode b_M_init 271 = .ok (.iconst 3, 1) := by decide +kernel
theorem d_M_init_272 : decode b_M_init 272 = .ok (.iastore, 1) := by decide +kernel
theorem d_M_init_273 : decode b_M_init 273 = .ok (.iinc 1 1, 3) := by decide +kernel
theorem d_M_init_276 : decode b_M_init 276 = .ok (.goto (-32), 3) := by decide +kernel
theorem d_M_init_279 : decode b_M_init 279 = .ok (.return_, 1) := by decide +kernel
theorem d_M_thrown_0 : decode b_M_thrown 0 = .ok (.aload_n 0, 1) := by decide +kernel
theorem d_M_thrown_1 : decode b_M_thrown 1 = .ok (.getfield 92, 3) := by decide +kernel
theorem d_M_thrown_4 : decode b_M_thrown 4 = .ok (.ireturn, 1) := by decide +kernel
theorem d_M_rule_0 : decode b_M_rule 0 = .ok (.aload_n 0, 1) := by decide +kernel
theorem d_M_rule_1 : decode b_M_rule 1 = .ok (.iconst 0, 1) := by decide +kernel
theorem d_M_rule_2 : decode b_M_rule 2 = .ok (.putfield 92, 3) := by decide +kernel
theorem d_M_rule_5 : decode b_M_rule 5 = .ok (.iload_n 1, 1) := by decide +kernel
theorem d_M_rule_6 : decode b_M_rule 6 = .ok (.iconst 0, 1) := by decide +kernel
theorem d_M_rule_7 : decode b_M_rule 7 = .ok (.bipush 9, 2) := by decide +kernel
theorem d_M_rule_9 : decode b_M_rule 9 = .ok (.invokestatic 97, 3) := by decide +kernel
theorem d_M_rule_12 : decode b_M_rule 12 = .ok (.ifCond .ne 5, 3) := by decide +kernel
theorem d_M_rule_15 : decode b_M_rule 15 = .ok (.iconst (-1), 1) := by decide +kernel
theorem d_M_rule_16 : decode b_M_rule 16 = .ok (.ireturn, 1) := by decide +kernel
theorem d_M_rule_17 : decode b_M_rule 17 = .ok (.iload_n 2, 1) := by decide +kernel
theorem d_M_rule_18 : decode b_M_rule 18 = .ok (.iconst 1, 1) := by decide +kernel
theorem d_M_rule_19 : decode b_M_rule 19 = .ok (.sipush 1000, 3) := by decide +kernel
theorem d_M_rule_22 : decode b_M_rule 22 = .ok (.invokestatic 97, 3) := by decide +kernel
theorem d_M_rule_25 : decode b_M_rule 25 = .ok (.ifCond .eq 25, 3) := by decide +kernel
theorem d_M_rule_28 : decode b_M_rule 28 = .ok (.iload_n 3, 1) := by decide +kernel
theorem d_M_rule_29 : decode b_M_rule 29 = .ok (.iconst 1, 1) := by decide +kernel
theorem d_M_rule_30 : decode b_M_rule 30 = .ok (.sipush 1000, 3) := by decide +kernel
theorem d_M_rule_33 : decode b_M_rule 33 = .ok (.invokestatic 97, 3) := by decide +kernel
theorem d_M_rule_36 : decode b_M_rule 36 = .ok (.ifCond .eq 14, 3) := by decide +kernel
theorem d_M_rule_39 : decode b_M_rule 39 = .ok (.iload 4, 2) := by decide +kernel
theorem d_M_rule_41 : decode b_M_rule 41 = .ok (.iconst 0, 1) := by decide +kernel
theorem d_M_rule_42 : decode b_M_rule 42 = .ok (.bipush 9, 2) := by decide +kernel
theorem d_M_rule_44 : decode b_M_rule 44 = .ok (.invokestatic 97, 3) := by decide +kernel
theorem d_M_rule_47 : decode b_M_rule 47 = .ok (.ifCond .ne 6, 3) := by decide +kernel
theorem d_M_rule_50 : decode b_M_rule 50 = .ok (.bipush (-2), 2) := by decide +kernel
theorem d_M_rule_52 : decode b_M_rule 52 = .ok (.ireturn, 1) := by decide +kernel
theorem d_M_rule_53 : decode b_M_rule 53 = .ok (.aload_n 0, 1) := by decide +kernel
theorem d_M_rule_54 : decode b_M_rule 54 = .ok (.getfield 7, 3) := by decide +kernel
theorem d_M_rule_57 : decode b_M_rule 57 = .ok (.iload_n 1, 1) := by decide +kernel
theorem d_M_rule_58 : decode b_M_rule 58 = .ok (.iload_n 2, 1) := by decide +kernel
theorem d_M_rule_59 : decode b_M_rule 59 = .ok (.iastore, 1) := by decide +kernel
theorem d_M_rule_60 : decode b_M_rule 60 = .ok (.aload_n 0, 1) := by decide +kernel
theorem d_M_rule_61 : decode b_M_rule 61 = .ok (.getfield 13, 3) := by decide +kernel
theorem d_M_rule_64 : decode b_M_rule 64 = .ok (.iload_n 1, 1) := by decide +kernel
theorem d_M_rule_65 : decode b_M_rule 65 = .ok (.iload_n 3, 1) := by decide +kernel
theorem d_M_rule_66 : decode b_M_rule 66 = .ok (.iastore, 1) := by decide +kernel
theorem d_M_rule_67 : decode b_M_rule 67 = .ok (.aload_n 0, 1) := by decide +kernel
theorem d_M_rule_68 : decode b_M_rule 68 = .ok (.getfield 16, 3) := by decide +kernel
theorem d_M_rule_71 : decode b_M_rule 71 = .ok (.iload_n 1, 1) := by decide +kernel
theorem d_M_rule_72 : decode b_M_rule 72 = .ok (.iload 4, 2) := by decide +kernel
theorem d_M_rule_74 : decode b_M_rule 74 = .ok (.iastore, 1) := by decide +kernel
theorem d_M_rule_75 : decode b_M_rule 75 = .ok (.iconst 1, 1) := by decide +kernel
theorem d_M_rule_76 : decode b_M_rule 76 = .ok (.ireturn, 1) := by decide +kernel
theorem d_M_in_0 : decode b_M_in 0 = .ok (.iload_n 0, 1) := by decide +kernel
theorem d_M_in_1 : decode b_M_in 1 = .ok (.iload_n 1, 1) := by decide +kernel
theorem d_M_in_2 : decode b_M_in 2 = .ok (.if_icmp .lt 12, 3) := by decide +kernel
theorem d_M_in_5 : decode b_M_in 5 = .ok (.iload_n 0, 1) := by decide +kernel
theorem d_M_in_6 : decode b_M_in 6 = .ok (.iload_n 2, 1) := by decide +kernel
theorem d_M_in_7 : decode b_M_in 7 = .ok (.if_icmp .gt 7, 3) := by decide +kernel
theorem d_M_in_10 : decode b_M_in 10 = .ok (.iconst 1, 1) := by decide +kernel
theorem d_M_in_11 : decode b_M_in 11 = .ok (.goto 4, 3) := by decide +kernel
theorem d_M_in_14 : decode b_M_in 14 = .ok (.iconst 0, 1) := by decide +kernel
theorem d_M_in_15 : decode b_M_in 15 = .ok (.ireturn, 1) := by decide +kernel
theorem d_M_issue_0 : decode b_M_issue 0 = .ok (.aload_n 0, 1) := by decide +kernel
theorem d_M_issue_1 : decode b_M_issue 1 = .ok (.iconst 0, 1) := by decide +kernel
theorem d_M_issue_2 : decode b_M_issue 2 = .ok (.putfield 92, 3) := by decide +kernel
theorem d_M_issue_5 : decode b_M_issue 5 = .ok (.iload_n 1, 1) := by decide +kernel
theorem d_M_issue_6 : decode b_M_issue 6 = .ok (.iconst 0, 1) := by decide +kernel
theorem d_M_issue_7 : decode b_M_issue 7 = .ok (.bipush 9, 2) := by decide +kernel
theorem d_M_issue_9 : decode b_M_issue 9 = .ok (.invokestatic 97, 3) := by decide +kernel
theorem d_M_issue_12 : decode b_M_issue 12 = .ok (.ifCond .ne 5, 3) := by decide +kernel
theorem d_M_issue_15 : decode b_M_issue 15 = .ok (.iconst (-1), 1) := by decide +kernel
theorem d_M_issue_16 : decode b_M_issue 16 = .ok (.ireturn, 1) := by decide +kernel
theorem d_M_issue_17 : decode b_M_issue 17 = .ok (.iload_n 2, 1) := by decide +kernel
theorem d_M_issue_18 : decode b_M_issue 18 = .ok (.iconst 1, 1) := by decide +kernel
theorem d_M_issue_19 : decode b_M_issue 19 = .ok (.sipush 9999, 3) := by decide +kernel
theorem d_M_issue_22 : decode b_M_issue 22 = .ok (.invokestatic 97, 3) := by decide +kernel
theorem d_M_issue_25 : decode b_M_issue 25 = .ok (.ifCond .eq 15, 3) := by decide +kernel
theorem d_M_issue_28 : decode b_M_issue 28 = .ok (.iload_n 3, 1) := by decide +kernel
theorem d_M_issue_29 : decode b_M_issue 29 = .ok (.iconst (-1), 1) := by decide +kernel
theorem d_M_issue_30 : decode b_M_issue 30 = .ok (.if_icmp .eq 13, 3) := by decide +kernel
theorem d_M_issue_33 : decode b_M_issue 33 = .ok (.iload_n 3, 1) := by decide +kernel
theorem d_M_issue_34 : decode b_M_issue 34 = .ok (.invokestatic 107, 3) := by decide +kernel
theorem d_M_issue_37 : decode b_M_issue 37 = .ok (.ifCond .ne 6, 3) := by decide +kernel
theorem d_M_issue_40 : decode b_M_issue 40 = .ok (.bipush (-2), 2) := by decide +kernel
theorem d_M_issue_42 : decode b_M_issue 42 = .ok (.ireturn, 1) := by decide +kernel
theorem d_M_issue_43 : decode b_M_issue 43 = .ok (.iconst 0, 1) := by decide +kernel
theorem d_M_issue_44 : decode b_M_issue 44 = .ok (.istore 4, 2) := by decide +kernel
theorem d_M_issue_46 : decode b_M_issue 46 = .ok (.iload 4, 2) := by decide +kernel
theorem d_M_issue_48 : decode b_M_issue 48 = .ok (.aload_n 0, 1) := by decide +kernel
theorem d_M_issue_49 : decode b_M_issue 49 = .ok (.getfield 101, 3) := by decide +kernel
theorem d_M_issue_52 : decode b_M_issue 52 = .ok (.if_icmp .ge 34, 3) := by decide +kernel
theorem d_M_issue_55 : decode b_M_issue 55 = .ok (.aload_n 0, 1) := by decide +kernel
theorem d_M_issue_56 : decode b_M_issue 56 = .ok (.getfield 19, 3) := by decide +kernel
theorem d_M_issue_59 : decode b_M_issue 59 = .ok (.iload 4, 2) := by decide +kernel
theorem d_M_issue_61 : decode b_M_issue 61 = .ok (.iaload, 1) := by decide +kernel
theorem d_M_issue_62 : decode b_M_issue 62 = .ok (.iload_n 1, 1) := by decide +kernel
theorem d_M_issue_63 : decode b_M_issue 63 = .ok (.if_icmp .ne 17, 3) := by decide +kernel
theorem d_M_issue_66 : decode b_M_issue 66 = .ok (.aload_n 0, 1) := by decide +kernel
theorem d_M_issue_67 : decode b_M_issue 67 = .ok (.getfield 22, 3) := by decide +kernel
theorem d_M_issue_70 : decode b_M_issue 70 = .ok (.iload 4, 2) := by decide +kernel
theorem d_M_issue_72 : decode b_M_issue 72 = .ok (.iaload, 1) := by decide +kernel
theorem d_M_issue_73 : decode b_M_issue 73 = .ok (.iload_n 2, 1) := by decide +kernel
theorem d_M_issue_74 : decode b_M_issue 74 = .ok (.if_icmp .ne 6, 3) := by decide +kernel
theorem d_M_issue_77 : decode b_M_issue 77 = .ok (.bipush (-3), 2) := by decide +kernel
theorem d_M_issue_79 : decode b_M_issue 79 = .ok (.ireturn, 1) := by decide +kernel
theorem d_M_issue_80 : decode b_M_issue 80 = .ok (.iinc 4 1, 3) := by decide +kernel
theorem d_M_issue_83 : decode b_M_issue 83 = .ok (.goto (-37), 3) := by decide +kernel
theorem d_M_issue_86 : decode b_M_issue 86 = .ok (.aload_n 0, 1) := by decide +kernel
theorem d_M_issue_87 : decode b_M_issue 87 = .ok (.getfield 101, 3) := by decide +kernel
theorem d_M_issue_90 : decode b_M_issue 90 = .ok (.sipush 200, 3) := by decide +kernel
theorem d_M_issue_93 : decode b_M_issue 93 = .ok (.if_icmp .ne 8, 3) := by decide +kernel
theorem d_M_issue_96 : decode b_M_issue 96 = .ok (.bipush (-4), 2) := by decide +kernel
theorem d_M_issue_98 : decode b_M_issue 98 = .ok (.goto 10, 3) := by decide +kernel
theorem d_M_issue_101 : decode b_M_issue 101 = .ok (.aload_n 0, 1) := by decide +kernel
theorem d_M_issue_102 : decode b_M_issue 102 = .ok (.iload_n 1, 1) := by decide +kernel
theorem d_M_issue_103 : decode b_M_issue 103 = .ok (.iload_n 2, 1) := by decide +kernel
theorem d_M_issue_104 : decode b_M_issue 104 = .ok (.iload_n 3, 1) := by decide +kernel
theorem d_M_issue_105 : decode b_M_issue 105 = .ok (.invokevirtual 111, 3) := by decide +kernel
theorem d_M_issue_108 : decode b_M_issue 108 = .ok (.ireturn, 1) := by decide +kernel
theorem d_M_isDay_0 : decode b_M_isDay 0 = .ok (.iload_n 0, 1) := by decide +kernel
theorem d_M_isDay_1 : decode b_M_isDay 1 = .ok (.iconst 0, 1) := by decide +kernel
theorem d_M_isDay_2 : decode b_M_isDay 2 = .ok (.ldc 96, 2) := by decide +kernel
theorem d_M_isDay_4 : decode b_M_isDay 4 = .ok (.invokestatic 97, 3) := by decide +kernel
theorem d_M_isDay_7 : decode b_M_isDay 7 = .ok (.ireturn, 1) := by decide +kernel
theorem d_M_lay_0 : decode b_M_lay 0 = .ok (.aload_n 0, 1) := by decide +kernel
theorem d_M_lay_1 : decode b_M_lay 1 = .ok (.getfield 101, 3) := by decide +kernel
theorem d_M_lay_4 : decode b_M_lay 4 = .ok (.istore 4, 2) := by decide +kernel
theorem d_M_lay_6 : decode b_M_lay 6 = .ok (.aload_n 0, 1) := by decide +kernel
theorem d_M_lay_7 : decode b_M_lay 7 = .ok (.getfield 19, 3) := by decide +kernel
theorem d_M_lay_10 : decode b_M_lay 10 = .ok (.iload 4, 2) := by decide +kernel
theorem d_M_lay_12 : decode b_M_lay 12 = .ok (.iload_n 1, 1) := by decide +kernel
theorem d_M_lay_13 : decode b_M_lay 13 = .ok (.iastore, 1) := by decide +kernel
theorem d_M_lay_14 : decode b_M_lay 14 = .ok (.aload_n 0, 1) := by decide +kernel
theorem d_M_lay_15 : decode b_M_lay 15 = .ok (.getfield 22, 3) := by decide +kernel
theorem d_M_lay_18 : decode b_M_lay 18 = .ok (.iload 4, 2) := by decide +kernel
theorem d_M_lay_20 : decode b_M_lay 20 = .ok (.iload_n 2, 1) := by decide +kernel
theorem d_M_lay_21 : decode b_M_lay 21 = .ok (.iastore, 1) := by decide +kernel
theorem d_M_lay_22 : decode b_M_lay 22 = .ok (.aload_n 0, 1) := by decide +kernel
theorem d_M_lay_23 : decode b_M_lay 23 = .ok (.getfield 28, 3) := by decide +kernel
theorem d_M_lay_26 : decode b_M_lay 26 = .ok (.iload 4, 2) := by decide +kernel
theorem d_M_lay_28 : decode b_M_lay 28 = .ok (.iload_n 3, 1) := by decide +kernel
theorem d_M_lay_29 : decode b_M_lay 29 = .ok (.iastore, 1) := by decide +kernel
theorem d_M_lay_30 : decode b_M_lay 30 = .ok (.aload_n 0, 1) := by decide +kernel
theorem d_M_lay_31 : decode b_M_lay 31 = .ok (.getfield 25, 3) := by decide +kernel
theorem d_M_lay_34 : decode b_M_lay 34 = .ok (.iload 4, 2) := by decide +kernel
theorem d_M_lay_36 : decode b_M_lay 36 = .ok (.iload_n 3, 1) := by decide +kernel
theorem d_M_lay_37 : decode b_M_lay 37 = .ok (.ifCond .ge 7, 3) := by decide +kernel
theorem d_M_lay_40 : decode b_M_lay 40 = .ok (.iconst 0, 1) := by decide +kernel
theorem d_M_lay_41 : decode b_M_lay 41 = .ok (.goto 4, 3) := by decide +kernel
theorem d_M_lay_44 : decode b_M_lay 44 = .ok (.iconst 1, 1) := by decide +kernel
theorem d_M_lay_45 : decode b_M_lay 45 = .ok (.iastore, 1) := by decide +kernel
theorem d_M_lay_46 : decode b_M_lay 46 = .ok (.aload_n 0, 1) := by decide +kernel
theorem d_M_lay_47 : decode b_M_lay 47 = .ok (.getfield 31, 3) := by decide +kernel
theorem d_M_lay_50 : decode b_M_lay 50 = .ok (.iload 4, 2) := by decide +kernel
theorem d_M_lay_52 : decode b_M_lay 52 = .ok (.iconst 0, 1) := by decide +kernel
theorem d_M_lay_53 : decode b_M_lay 53 = .ok (.iastore, 1) := by decide +kernel
theorem d_M_lay_54 : decode b_M_lay 54 = .ok (.aload_n 0, 1) := by decide +kernel
theorem d_M_lay_55 : decode b_M_lay 55 = .ok (.getfield 37, 3) := by decide +kernel
theorem d_M_lay_58 : decode b_M_lay 58 = .ok (.iload 4, 2) := by decide +kernel
theorem d_M_lay_60 : decode b_M_lay 60 = .ok (.iconst 0, 1) := by decide +kernel
theorem d_M_lay_61 : decode b_M_lay 61 = .ok (.iastore, 1) := by decide +kernel
theorem d_M_lay_62 : decode b_M_lay 62 = .ok (.aload_n 0, 1) := by decide +kernel
theorem d_M_lay_63 : decode b_M_lay 63 = .ok (.getfield 40, 3) := by decide +kernel
theorem d_M_lay_66 : decode b_M_lay 66 = .ok (.iload 4, 2) := by decide +kernel
theorem d_M_lay_68 : decode b_M_lay 68 = .ok (.iconst (-1), 1) := by decide +kernel
theorem d_M_lay_69 : decode b_M_lay 69 = .ok (.iastore, 1) := by decide +kernel
theorem d_M_lay_70 : decode b_M_lay 70 = .ok (.aload_n 0, 1) := by decide +kernel
theorem d_M_lay_71 : decode b_M_lay 71 = .ok (.getfield 43, 3) := by decide +kernel
theorem d_M_lay_74 : decode b_M_lay 74 = .ok (.iload 4, 2) := by decide +kernel
theorem d_M_lay_76 : decode b_M_lay 76 = .ok (.iconst (-1), 1) := by decide +kernel
theorem d_M_lay_77 : decode b_M_lay 77 = .ok (.iastore, 1) := by decide +kernel
theorem d_M_lay_78 : decode b_M_lay 78 = .ok (.aload_n 0, 1) := by decide +kernel
theorem d_M_lay_79 : decode b_M_lay 79 = .ok (.getfield 46, 3) := by decide +kernel
theorem d_M_lay_82 : decode b_M_lay 82 = .ok (.iload 4, 2) := by decide +kernel
theorem d_M_lay_84 : decode b_M_lay 84 = .ok (.iconst (-1), 1) := by decide +kernel
theorem d_M_lay_85 : decode b_M_lay 85 = .ok (.iastore, 1) := by decide +kernel
theorem d_M_lay_86 : decode b_M_lay 86 = .ok (.aload_n 0, 1) := by decide +kernel
theorem d_M_lay_87 : decode b_M_lay 87 = .ok (.getfield 49, 3) := by decide +kernel
theorem d_M_lay_90 : decode b_M_lay 90 = .ok (.iload 4, 2) := by decide +kernel
theorem d_M_lay_92 : decode b_M_lay 92 = .ok (.iconst 0, 1) := by decide +kernel
theorem d_M_lay_93 : decode b_M_lay 93 = .ok (.iastore, 1) := by decide +kernel
theorem d_M_lay_94 : decode b_M_lay 94 = .ok (.aload_n 0, 1) := by decide +kernel
theorem d_M_lay_95 : decode b_M_lay 95 = .ok (.getfield 56, 3) := by decide +kernel
theorem d_M_lay_98 : decode b_M_lay 98 = .ok (.iload 4, 2) := by decide +kernel
theorem d_M_lay_100 : decode b_M_lay 100 = .ok (.iconst 0, 1) := by decide +kernel
theorem d_M_lay_101 : decode b_M_lay 101 = .ok (.iastore, 1) := by decide +kernel
theorem d_M_lay_102 : decode b_M_lay 102 = .ok (.aload_n 0, 1) := by decide +kernel
theorem d_M_lay_103 : decode b_M_lay 103 = .ok (.getfield 65, 3) := by decide +kernel
theorem d_M_lay_106 : decode b_M_lay 106 = .ok (.iload 4, 2) := by decide +kernel
theorem d_M_lay_108 : decode b_M_lay 108 = .ok (.iconst (-1), 1) := by decide +kernel
theorem d_M_lay_109 : decode b_M_lay 109 = .ok (.iastore, 1) := by decide +kernel
theorem d_M_lay_110 : decode b_M_lay 110 = .ok (.aload_n 0, 1) := by decide +kernel
theorem d_M_lay_111 : decode b_M_lay 111 = .ok (.dup, 1) := by decide +kernel
theorem d_M_lay_112 : decode b_M_lay 112 = .ok (.getfield 101, 3) := by decide +kernel
theorem d_M_lay_115 : decode b_M_lay 115 = .ok (.iconst 1, 1) := by decide +kernel
theorem d_M_lay_116 : decode b_M_lay 116 = .ok (.iadd, 1) := by decide +kernel
theorem d_M_lay_117 : decode b_M_lay 117 = .ok (.putfield 101, 3) := by decide +kernel
theorem d_M_lay_120 : decode b_M_lay 120 = .ok (.iload 4, 2) := by decide +kernel
theorem d_M_lay_122 : decode b_M_lay 122 = .ok (.ireturn, 1) := by decide +kernel
theorem d_M_checkIn_0 : decode b_M_checkIn 0 = .ok (.aload_n 0, 1) := by decide +kernel
theorem d_M_checkIn_1 : decode b_M_checkIn 1 = .ok (.iconst 0, 1) := by decide +kernel
theorem d_M_checkIn_2 : decode b_M_checkIn 2 = .ok (.putfield 92, 3) := by decide +kernel
theorem d_M_checkIn_5 : decode b_M_checkIn 5 = .ok (.aload_n 0, 1) := by decide +kernel
theorem d_M_checkIn_6 : decode b_M_checkIn 6 = .ok (.iload_n 1, 1) := by decide +kernel
theorem d_M_checkIn_7 : decode b_M_checkIn 7 = .ok (.invokevirtual 115, 3) := by decide +kernel
theorem d_M_checkIn_10 : decode b_M_checkIn 10 = .ok (.ifCond .ne 5, 3) := by decide +kernel
theorem d_M_checkIn_13 : decode b_M_checkIn 13 = .ok (.iconst (-1), 1) := by decide +kernel
theorem d_M_checkIn_14 : decode b_M_checkIn 14 = .ok (.ireturn, 1) := by decide +kernel
theorem d_M_checkIn_15 : decode b_M_checkIn 15 = .ok (.iload_n 2, 1) := by decide +kernel
theorem d_M_checkIn_16 : decode b_M_checkIn 16 = .ok (.iconst 1, 1) := by decide +kernel
theorem d_M_checkIn_17 : decode b_M_checkIn 17 = .ok (.bipush 99, 2) := by decide +kernel
theorem d_M_checkIn_19 : decode b_M_checkIn 19 = .ok (.invokestatic 97, 3) := by decide +kernel
theorem d_M_checkIn_22 : decode b_M_checkIn 22 = .ok (.ifCond .eq 10, 3) := by decide +kernel
theorem d_M_checkIn_25 : decode b_M_checkIn 25 = .ok (.iload_n 3, 1) := by decide +kernel
theorem d_M_checkIn_26 : decode b_M_checkIn 26 = .ok (.invokestatic 107, 3) := by decide +kernel
theorem d_M_checkIn_29 : decode b_M_checkIn 29 = .ok (.ifCond .ne 6, 3) := by decide +kernel
theorem d_M_checkIn_32 : decode b_M_checkIn 32 = .ok (.bipush (-2), 2) := by decide +kernel
theorem d_M_checkIn_34 : decode b_M_checkIn 34 = .ok (.ireturn, 1) := by decide +kernel
theorem d_M_checkIn_35 : decode b_M_checkIn 35 = .ok (.aload_n 0, 1) := by decide +kernel
theorem d_M_checkIn_36 : decode b_M_checkIn 36 = .ok (.getfield 25, 3) := by decide +kernel
theorem d_M_checkIn_39 : decode b_M_checkIn 39 = .ok (.iload_n 1, 1) := by decide +kernel
theorem d_M_checkIn_40 : decode b_M_checkIn 40 = .ok (.iaload, 1) := by decide +kernel
