theorem d_M_route_25 : decode b_M_route 25 = .ok (.aload_n 0, 1) := by decide +kernel
theorem d_M_route_26 : decode b_M_route 26 = .ok (.getfield 25, 3) := by decide +kernel
theorem d_M_route_29 : decode b_M_route 29 = .ok (.iload_n 1, 1) := by decide +kernel
theorem d_M_route_30 : decode b_M_route 30 = .ok (.iaload, 1) := by decide +kernel
theorem d_M_route_31 : decode b_M_route 31 = .ok (.iconst 3, 1) := by decide +kernel
theorem d_M_route_32 : decode b_M_route 32 = .ok (.if_icmp .ne 21, 3) := by decide +kernel
theorem d_M_route_35 : decode b_M_route 35 = .ok (.aload_n 0, 1) := by decide +kernel
theorem d_M_route_36 : decode b_M_route 36 = .ok (.getfield 65, 3) := by decide +kernel
theorem d_M_route_39 : decode b_M_route 39 = .ok (.iload_n 1, 1) := by decide +kernel
theorem d_M_route_40 : decode b_M_route 40 = .ok (.iaload, 1) := by decide +kernel
theorem d_M_route_41 : decode b_M_route 41 = .ok (.ifCond .ge 12, 3) := by decide +kernel
theorem d_M_route_44 : decode b_M_route 44 = .ok (.aload_n 0, 1) := by decide +kernel
theorem d_M_route_45 : decode b_M_route 45 = .ok (.getfield 56, 3) := by decide +kernel
theorem d_M_route_48 : decode b_M_route 48 = .ok (.iload_n 1, 1) := by decide +kernel
theorem d_M_route_49 : decode b_M_route 49 = .ok (.iaload, 1) := by decide +kernel
theorem d_M_route_50 : decode b_M_route 50 = .ok (.ifCond .ne 6, 3) := by decide +kernel
theorem d_M_route_53 : decode b_M_route 53 = .ok (.bipush (-3), 2) := by decide +kernel
theorem d_M_route_55 : decode b_M_route 55 = .ok (.ireturn, 1) := by decide +kernel
theorem d_M_route_56 : decode b_M_route 56 = .ok (.aload_n 0, 1) := by decide +kernel
theorem d_M_route_57 : decode b_M_route 57 = .ok (.getfield 65, 3) := by decide +kernel
theorem d_M_route_60 : decode b_M_route 60 = .ok (.iload_n 1, 1) := by decide +kernel
theorem d_M_route_61 : decode b_M_route 61 = .ok (.iconst 0, 1) := by decide +kernel
theorem d_M_route_62 : decode b_M_route 62 = .ok (.iastore, 1) := by decide +kernel
theorem d_M_route_63 : decode b_M_route 63 = .ok (.aload_n 0, 1) := by decide +kernel
theorem d_M_route_64 : decode b_M_route 64 = .ok (.getfield 68, 3) := by decide +kernel
theorem d_M_route_67 : decode b_M_route 67 = .ok (.iload_n 1, 1) := by decide +kernel
theorem d_M_route_68 : decode b_M_route 68 = .ok (.iload_n 2, 1) := by decide +kernel
theorem d_M_route_69 : decode b_M_route 69 = .ok (.iastore, 1) := by decide +kernel
theorem d_M_route_70 : decode b_M_route 70 = .ok (.aload_n 0, 1) := by decide +kernel
theorem d_M_route_71 : decode b_M_route 71 = .ok (.getfield 59, 3) := by decide +kernel
theorem d_M_route_74 : decode b_M_route 74 = .ok (.bipush 8, 2) := by decide +kernel
theorem d_M_route_76 : decode b_M_route 76 = .ok (.iload_n 1, 1) := by decide +kernel
theorem d_M_route_77 : decode b_M_route 77 = .ok (.imul, 1) := by decide +kernel
theorem d_M_route_78 : decode b_M_route 78 = .ok (.iaload, 1) := by decide +kernel
theorem d_M_route_79 : decode b_M_route 79 = .ok (.ireturn, 1) := by decide +kernel
theorem d_M_returned_0 : decode b_M_returned 0 = .ok (.aload_n 0, 1) := by decide +kernel
theorem d_M_returned_1 : decode b_M_returned 1 = .ok (.iconst 0, 1) := by decide +kernel
theorem d_M_returned_2 : decode b_M_returned 2 = .ok (.putfield 92, 3) := by decide +kernel
theorem d_M_returned_5 : decode b_M_returned 5 = .ok (.aload_n 0, 1) := by decide +kernel
theorem d_M_returned_6 : decode b_M_returned 6 = .ok (.iload_n 1, 1) := by decide +kernel
theorem d_M_returned_7 : decode b_M_returned 7 = .ok (.invokevirtual 115, 3) := by decide +kernel
theorem d_M_returned_10 : decode b_M_returned 10 = .ok (.ifCond .ne 5, 3) := by decide +kernel
theorem d_M_returned_13 : decode b_M_returned 13 = .ok (.iconst (-1), 1) := by decide +kernel
theorem d_M_returned_14 : decode b_M_returned 14 = .ok (.ireturn, 1) := by decide +kernel
theorem d_M_returned_15 : decode b_M_returned 15 = .ok (.iload_n 2, 1) := by decide +kernel
theorem d_M_returned_16 : decode b_M_returned 16 = .ok (.invokestatic 107, 3) := by decide +kernel
theorem d_M_returned_19 : decode b_M_returned 19 = .ok (.ifCond .eq 21, 3) := by decide +kernel
theorem d_M_returned_22 : decode b_M_returned 22 = .ok (.aload_n 0, 1) := by decide +kernel
theorem d_M_returned_23 : decode b_M_returned 23 = .ok (.iload_n 1, 1) := by decide +kernel
theorem d_M_returned_24 : decode b_M_returned 24 = .ok (.invokevirtual 128, 3) := by decide +kernel
theorem d_M_returned_27 : decode b_M_returned 27 = .ok (.ifCond .eq 16, 3) := by decide +kernel
theorem d_M_returned_30 : decode b_M_returned 30 = .ok (.iload_n 2, 1) := by decide +kernel
theorem d_M_returned_31 : decode b_M_returned 31 = .ok (.aload_n 0, 1) := by decide +kernel
theorem d_M_returned_32 : decode b_M_returned 32 = .ok (.getfield 68, 3) := by decide +kernel
theorem d_M_returned_35 : decode b_M_returned 35 = .ok (.iload_n 1, 1) := by decide +kernel
theorem d_M_returned_36 : decode b_M_returned 36 = .ok (.iaload, 1) := by decide +kernel
theorem d_M_returned_37 : decode b_M_returned 37 = .ok (.if_icmp .ge 6, 3) := by decide +kernel
theorem d_M_returned_40 : decode b_M_returned 40 = .ok (.bipush (-2), 2) := by decide +kernel
theorem d_M_returned_42 : decode b_M_returned 42 = .ok (.ireturn, 1) := by decide +kernel
theorem d_M_returned_43 : decode b_M_returned 43 = .ok (.aload_n 0, 1) := by decide +kernel
theorem d_M_returned_44 : decode b_M_returned 44 = .ok (.iload_n 1, 1) := by decide +kernel
theorem d_M_returned_45 : decode b_M_returned 45 = .ok (.invokevirtual 128, 3) := by decide +kernel
theorem d_M_returned_48 : decode b_M_returned 48 = .ok (.ifCond .ne 6, 3) := by decide +kernel
theorem d_M_returned_51 : decode b_M_returned 51 = .ok (.bipush (-3), 2) := by decide +kernel
theorem d_M_returned_53 : decode b_M_returned 53 = .ok (.ireturn, 1) := by decide +kernel
theorem d_M_returned_54 : decode b_M_returned 54 = .ok (.bipush 8, 2) := by decide +kernel
theorem d_M_returned_56 : decode b_M_returned 56 = .ok (.iload_n 1, 1) := by decide +kernel
theorem d_M_returned_57 : decode b_M_returned 57 = .ok (.imul, 1) := by decide +kernel
theorem d_M_returned_58 : decode b_M_returned 58 = .ok (.aload_n 0, 1) := by decide +kernel
theorem d_M_returned_59 : decode b_M_returned 59 = .ok (.getfield 65, 3) := by decide +kernel
theorem d_M_returned_62 : decode b_M_returned 62 = .ok (.iload_n 1, 1) := by decide +kernel
theorem d_M_returned_63 : decode b_M_returned 63 = .ok (.iaload, 1) := by decide +kernel
theorem d_M_returned_64 : decode b_M_returned 64 = .ok (.iadd, 1) := by decide +kernel
theorem d_M_returned_65 : decode b_M_returned 65 = .ok (.istore_n 3, 1) := by decide +kernel
theorem d_M_returned_66 : decode b_M_returned 66 = .ok (.iload_n 2, 1) := by decide +kernel
theorem d_M_returned_67 : decode b_M_returned 67 = .ok (.aload_n 0, 1) := by decide +kernel
theorem d_M_returned_68 : decode b_M_returned 68 = .ok (.getfield 68, 3) := by decide +kernel
theorem d_M_returned_71 : decode b_M_returned 71 = .ok (.iload_n 1, 1) := by decide +kernel
theorem d_M_returned_72 : decode b_M_returned 72 = .ok (.iaload, 1) := by decide +kernel
theorem d_M_returned_73 : decode b_M_returned 73 = .ok (.isub, 1) := by decide +kernel
theorem d_M_returned_74 : decode b_M_returned 74 = .ok (.aload_n 0, 1) := by decide +kernel
theorem d_M_returned_75 : decode b_M_returned 75 = .ok (.getfield 62, 3) := by decide +kernel
theorem d_M_returned_78 : decode b_M_returned 78 = .ok (.iload_n 3, 1) := by decide +kernel
theorem d_M_returned_79 : decode b_M_returned 79 = .ok (.iaload, 1) := by decide +kernel
theorem d_M_returned_80 : decode b_M_returned 80 = .ok (.if_icmp .le 9, 3) := by decide +kernel
theorem d_M_returned_83 : decode b_M_returned 83 = .ok (.aload_n 0, 1) := by decide +kernel
theorem d_M_returned_84 : decode b_M_returned 84 = .ok (.iconst 4, 1) := by decide +kernel
theorem d_M_returned_85 : decode b_M_returned 85 = .ok (.iload_n 1, 1) := by decide +kernel
theorem d_M_returned_86 : decode b_M_returned 86 = .ok (.invokevirtual 118, 3) := by decide +kernel
theorem d_M_returned_89 : decode b_M_returned 89 = .ok (.aload_n 0, 1) := by decide +kernel
theorem d_M_returned_90 : decode b_M_returned 90 = .ok (.getfield 65, 3) := by decide +kernel
theorem d_M_returned_93 : decode b_M_returned 93 = .ok (.iload_n 1, 1) := by decide +kernel
theorem d_M_returned_94 : decode b_M_returned 94 = .ok (.dup2, 1) := by decide +kernel
theorem d_M_returned_95 : decode b_M_returned 95 = .ok (.iaload, 1) := by decide +kernel
theorem d_M_returned_96 : decode b_M_returned 96 = .ok (.iconst 1, 1) := by decide +kernel
theorem d_M_returned_97 : decode b_M_returned 97 = .ok (.iadd, 1) := by decide +kernel
theorem d_M_returned_98 : decode b_M_returned 98 = .ok (.iastore, 1) := by decide +kernel
theorem d_M_returned_99 : decode b_M_returned 99 = .ok (.aload_n 0, 1) := by decide +kernel
theorem d_M_returned_100 : decode b_M_returned 100 = .ok (.getfield 68, 3) := by decide +kernel
theorem d_M_returned_103 : decode b_M_returned 103 = .ok (.iload_n 1, 1) := by decide +kernel
theorem d_M_returned_104 : decode b_M_returned 104 = .ok (.iload_n 2, 1) := by decide +kernel
theorem d_M_returned_105 : decode b_M_returned 105 = .ok (.iastore, 1) := by decide +kernel
theorem d_M_returned_106 : decode b_M_returned 106 = .ok (.aload_n 0, 1) := by decide +kernel
theorem d_M_returned_107 : decode b_M_returned 107 = .ok (.iload_n 1, 1) := by decide +kernel
theorem d_M_returned_108 : decode b_M_returned 108 = .ok (.invokevirtual 128, 3) := by decide +kernel
theorem d_M_returned_111 : decode b_M_returned 111 = .ok (.ifCond .eq 14, 3) := by decide +kernel
theorem d_M_returned_114 : decode b_M_returned 114 = .ok (.aload_n 0, 1) := by decide +kernel
theorem d_M_returned_115 : decode b_M_returned 115 = .ok (.getfield 59, 3) := by decide +kernel
theorem d_M_returned_118 : decode b_M_returned 118 = .ok (.iload_n 3, 1) := by decide +kernel
theorem d_M_returned_119 : decode b_M_returned 119 = .ok (.iconst 1, 1) := by decide +kernel
theorem d_M_returned_120 : decode b_M_returned 120 = .ok (.iadd, 1) := by decide +kernel
theorem d_M_returned_121 : decode b_M_returned 121 = .ok (.iaload, 1) := by decide +kernel
theorem d_M_returned_122 : decode b_M_returned 122 = .ok (.goto 6, 3) := by decide +kernel
theorem d_M_returned_125 : decode b_M_returned 125 = .ok (.sipush 1000, 3) := by decide +kernel
theorem d_M_returned_128 : decode b_M_returned 128 = .ok (.ireturn, 1) := by decide +kernel
theorem d_M_isHeld_0 : decode b_M_isHeld 0 = .ok (.aload_n 0, 1) := by decide +kernel
theorem d_M_isHeld_1 : decode b_M_isHeld 1 = .ok (.getfield 65, 3) := by decide +kernel
theorem d_M_isHeld_4 : decode b_M_isHeld 4 = .ok (.iload_n 1, 1) := by decide +kernel
theorem d_M_isHeld_5 : decode b_M_isHeld 5 = .ok (.iaload, 1) := by decide +kernel
theorem d_M_isHeld_6 : decode b_M_isHeld 6 = .ok (.ifCond .lt 22, 3) := by decide +kernel
theorem d_M_isHeld_9 : decode b_M_isHeld 9 = .ok (.aload_n 0, 1) := by decide +kernel
theorem d_M_isHeld_10 : decode b_M_isHeld 10 = .ok (.getfield 65, 3) := by decide +kernel
theorem d_M_isHeld_13 : decode b_M_isHeld 13 = .ok (.iload_n 1, 1) := by decide +kernel
theorem d_M_isHeld_14 : decode b_M_isHeld 14 = .ok (.iaload, 1) := by decide +kernel
theorem d_M_isHeld_15 : decode b_M_isHeld 15 = .ok (.aload_n 0, 1) := by decide +kernel
theorem d_M_isHeld_16 : decode b_M_isHeld 16 = .ok (.getfield 56, 3) := by decide +kernel
theorem d_M_isHeld_19 : decode b_M_isHeld 19 = .ok (.iload_n 1, 1) := by decide +kernel
theorem d_M_isHeld_20 : decode b_M_isHeld 20 = .ok (.iaload, 1) := by decide +kernel
theorem d_M_isHeld_21 : decode b_M_isHeld 21 = .ok (.if_icmp .ge 7, 3) := by decide +kernel
theorem d_M_isHeld_24 : decode b_M_isHeld 24 = .ok (.iconst 1, 1) := by decide +kernel
theorem d_M_isHeld_25 : decode b_M_isHeld 25 = .ok (.goto 4, 3) := by decide +kernel
theorem d_M_isHeld_28 : decode b_M_isHeld 28 = .ok (.iconst 0, 1) := by decide +kernel
theorem d_M_isHeld_29 : decode b_M_isHeld 29 = .ok (.ireturn, 1) := by decide +kernel
theorem d_M_replace_0 : decode b_M_replace 0 = .ok (.aload_n 0, 1) := by decide +kernel
theorem d_M_replace_1 : decode b_M_replace 1 = .ok (.iconst 0, 1) := by decide +kernel
theorem d_M_replace_2 : decode b_M_replace 2 = .ok (.putfield 92, 3) := by decide +kernel
theorem d_M_replace_5 : decode b_M_replace 5 = .ok (.aload_n 0, 1) := by decide +kernel
theorem d_M_replace_6 : decode b_M_replace 6 = .ok (.iload_n 1, 1) := by decide +kernel
theorem d_M_replace_7 : decode b_M_replace 7 = .ok (.invokevirtual 115, 3) := by decide +kernel
theorem d_M_replace_10 : decode b_M_replace 10 = .ok (.ifCond .ne 5, 3) := by decide +kernel
theorem d_M_replace_13 : decode b_M_replace 13 = .ok (.iconst (-1), 1) := by decide +kernel
theorem d_M_replace_14 : decode b_M_replace 14 = .ok (.ireturn, 1) := by decide +kernel
theorem d_M_replace_15 : decode b_M_replace 15 = .ok (.iload_n 2, 1) := by decide +kernel
theorem d_M_replace_16 : decode b_M_replace 16 = .ok (.invokestatic 107, 3) := by decide +kernel
theorem d_M_replace_19 : decode b_M_replace 19 = .ok (.ifCond .ne 6, 3) := by decide +kernel
theorem d_M_replace_22 : decode b_M_replace 22 = .ok (.bipush (-2), 2) := by decide +kernel
theorem d_M_replace_24 : decode b_M_replace 24 = .ok (.ireturn, 1) := by decide +kernel
theorem d_M_replace_25 : decode b_M_replace 25 = .ok (.aload_n 0, 1) := by decide +kernel
theorem d_M_replace_26 : decode b_M_replace 26 = .ok (.getfield 25, 3) := by decide +kernel
theorem d_M_replace_29 : decode b_M_replace 29 = .ok (.iload_n 1, 1) := by decide +kernel
theorem d_M_replace_30 : decode b_M_replace 30 = .ok (.iaload, 1) := by decide +kernel
theorem d_M_replace_31 : decode b_M_replace 31 = .ok (.iconst 3, 1) := by decide +kernel
theorem d_M_replace_32 : decode b_M_replace 32 = .ok (.if_icmp .eq 13, 3) := by decide +kernel
theorem d_M_replace_35 : decode b_M_replace 35 = .ok (.aload_n 0, 1) := by decide +kernel
theorem d_M_replace_36 : decode b_M_replace 36 = .ok (.getfield 25, 3) := by decide +kernel
theorem d_M_replace_39 : decode b_M_replace 39 = .ok (.iload_n 1, 1) := by decide +kernel
theorem d_M_replace_40 : decode b_M_replace 40 = .ok (.iaload, 1) := by decide +kernel
theorem d_M_replace_41 : decode b_M_replace 41 = .ok (.iconst 4, 1) := by decide +kernel
theorem d_M_replace_42 : decode b_M_replace 42 = .ok (.if_icmp .ne 11, 3) := by decide +kernel
theorem d_M_replace_45 : decode b_M_replace 45 = .ok (.aload_n 0, 1) := by decide +kernel
theorem d_M_replace_46 : decode b_M_replace 46 = .ok (.iload_n 1, 1) := by decide +kernel
theorem d_M_replace_47 : decode b_M_replace 47 = .ok (.invokevirtual 128, 3) := by decide +kernel
theorem d_M_replace_50 : decode b_M_replace 50 = .ok (.ifCond .eq 6, 3) := by decide +kernel
theorem d_M_replace_53 : decode b_M_replace 53 = .ok (.bipush (-3), 2) := by decide +kernel
theorem d_M_replace_55 : decode b_M_replace 55 = .ok (.ireturn, 1) := by decide +kernel
theorem d_M_replace_56 : decode b_M_replace 56 = .ok (.aload_n 0, 1) := by decide +kernel
theorem d_M_replace_57 : decode b_M_replace 57 = .ok (.getfield 101, 3) := by decide +kernel
theorem d_M_replace_60 : decode b_M_replace 60 = .ok (.sipush 200, 3) := by decide +kernel
theorem d_M_replace_63 : decode b_M_replace 63 = .ok (.if_icmp .ne 6, 3) := by decide +kernel
theorem d_M_replace_66 : decode b_M_replace 66 = .ok (.bipush (-4), 2) := by decide +kernel
theorem d_M_replace_68 : decode b_M_replace 68 = .ok (.ireturn, 1) := by decide +kernel
theorem d_M_replace_69 : decode b_M_replace 69 = .ok (.aload_n 0, 1) := by decide +kernel
theorem d_M_replace_70 : decode b_M_replace 70 = .ok (.aload_n 0, 1) := by decide +kernel
theorem d_M_replace_71 : decode b_M_replace 71 = .ok (.getfield 19, 3) := by decide +kernel
theorem d_M_replace_74 : decode b_M_replace 74 = .ok (.iload_n 1, 1) := by decide +kernel
theorem d_M_replace_75 : decode b_M_replace 75 = .ok (.iaload, 1) := by decide +kernel
theorem d_M_replace_76 : decode b_M_replace 76 = .ok (.aload_n 0, 1) := by decide +kernel
theorem d_M_replace_77 : decode b_M_replace 77 = .ok (.getfield 22, 3) := by decide +kernel
theorem d_M_replace_80 : decode b_M_replace 80 = .ok (.iload_n 1, 1) := by decide +kernel
theorem d_M_replace_81 : decode b_M_replace 81 = .ok (.iaload, 1) := by decide +kernel
theorem d_M_replace_82 : decode b_M_replace 82 = .ok (.aload_n 0, 1) := by decide +kernel
theorem d_M_replace_83 : decode b_M_replace 83 = .ok (.getfield 28, 3) := by decide +kernel
theorem d_M_replace_86 : decode b_M_replace 86 = .ok (.iload_n 1, 1) := by decide +kernel
theorem d_M_replace_87 : decode b_M_replace 87 = .ok (.iaload, 1) := by decide +kernel
theorem d_M_replace_88 : decode b_M_replace 88 = .ok (.invokevirtual 111, 3) := by decide +kernel
theorem d_M_replace_91 : decode b_M_replace 91 = .ok (.istore_n 3, 1) := by decide +kernel
theorem d_M_replace_92 : decode b_M_replace 92 = .ok (.aload_n 0, 1) := by decide +kernel
theorem d_M_replace_93 : decode b_M_replace 93 = .ok (.getfield 25, 3) := by decide +kernel
theorem d_M_replace_96 : decode b_M_replace 96 = .ok (.iload_n 3, 1) := by decide +kernel
theorem d_M_replace_97 : decode b_M_replace 97 = .ok (.iconst 3, 1) := by decide +kernel
theorem d_M_replace_98 : decode b_M_replace 98 = .ok (.iastore, 1) := by decide +kernel
theorem d_M_replace_99 : decode b_M_replace 99 = .ok (.aload_n 0, 1) := by decide +kernel
theorem d_M_replace_100 : decode b_M_replace 100 = .ok (.getfield 37, 3) := by decide +kernel
theorem d_M_replace_103 : decode b_M_replace 103 = .ok (.iload_n 3, 1) := by decide +kernel
theorem d_M_replace_104 : decode b_M_replace 104 = .ok (.iconst 1, 1) := by decide +kernel
theorem d_M_replace_105 : decode b_M_replace 105 = .ok (.iastore, 1) := by decide +kernel
theorem d_M_replace_106 : decode b_M_replace 106 = .ok (.aload_n 0, 1) := by decide +kernel
theorem d_M_replace_107 : decode b_M_replace 107 = .ok (.getfield 40, 3) := by decide +kernel
theorem d_M_replace_110 : decode b_M_replace 110 = .ok (.iload_n 3, 1) := by decide +kernel
theorem d_M_replace_111 : decode b_M_replace 111 = .ok (.iload_n 2, 1) := by decide +kernel
theorem d_M_replace_112 : decode b_M_replace 112 = .ok (.iastore, 1) := by decide +kernel
theorem d_M_replace_113 : decode b_M_replace 113 = .ok (.aload_n 0, 1) := by decide +kernel
theorem d_M_replace_114 : decode b_M_replace 114 = .ok (.getfield 52, 3) := by decide +kernel
theorem d_M_replace_117 : decode b_M_replace 117 = .ok (.iload_n 3, 1) := by decide +kernel
theorem d_M_replace_118 : decode b_M_replace 118 = .ok (.iconst 1, 1) := by decide +kernel
theorem d_M_replace_119 : decode b_M_replace 119 = .ok (.bastore, 1) := by decide +kernel
theorem d_M_replace_120 : decode b_M_replace 120 = .ok (.aload_n 0, 1) := by decide +kernel
theorem d_M_replace_121 : decode b_M_replace 121 = .ok (.getfield 25, 3) := by decide +kernel
theorem d_M_replace_124 : decode b_M_replace 124 = .ok (.iload_n 1, 1) := by decide +kernel
theorem d_M_replace_125 : decode b_M_replace 125 = .ok (.bipush 6, 2) := by decide +kernel
theorem d_M_replace_127 : decode b_M_replace 127 = .ok (.iastore, 1) := by decide +kernel
theorem d_M_replace_128 : decode b_M_replace 128 = .ok (.aload_n 0, 1) := by decide +kernel
theorem d_M_replace_129 : decode b_M_replace 129 = .ok (.getfield 46, 3) := by decide +kernel
theorem d_M_replace_132 : decode b_M_replace 132 = .ok (.iload_n 1, 1) := by decide +kernel
theorem d_M_replace_133 : decode b_M_replace 133 = .ok (.iload_n 3, 1) := by decide +kernel
theorem d_M_replace_134 : decode b_M_replace 134 = .ok (.iastore, 1) := by decide +kernel
theorem d_M_replace_135 : decode b_M_replace 135 = .ok (.iload_n 3, 1) := by decide +kernel
theorem d_M_replace_136 : decode b_M_replace 136 = .ok (.ireturn, 1) := by decide +kernel
theorem d_M_bind_0 : decode b_M_bind 0 = .ok (.aload_n 0, 1) := by decide +kernel
theorem d_M_bind_1 : decode b_M_bind 1 = .ok (.iconst 0, 1) := by decide +kernel
theorem d_M_bind_2 : decode b_M_bind 2 = .ok (.putfield 92, 3) := by decide +kernel
theorem d_M_bind_5 : decode b_M_bind 5 = .ok (.iload_n 1, 1) := by decide +kernel
theorem d_M_bind_6 : decode b_M_bind 6 = .ok (.iconst 0, 1) := by decide +kernel
theorem d_M_bind_7 : decode b_M_bind 7 = .ok (.bipush 9, 2) := by decide +kernel
theorem d_M_bind_9 : decode b_M_bind 9 = .ok (.invokestatic 97, 3) := by decide +kernel
theorem d_M_bind_12 : decode b_M_bind 12 = .ok (.ifCond .ne 5, 3) := by decide +kernel
theorem d_M_bind_15 : decode b_M_bind 15 = .ok (.iconst (-1), 1) := by decide +kernel
theorem d_M_bind_16 : decode b_M_bind 16 = .ok (.ireturn, 1) := by decide +kernel
theorem d_M_bind_17 : decode b_M_bind 17 = .ok (.iload_n 2, 1) := by decide +kernel
theorem d_M_bind_18 : decode b_M_bind 18 = .ok (.iconst 1, 1) := by decide +kernel
theorem d_M_bind_19 : decode b_M_bind 19 = .ok (.bipush 50, 2) := by decide +kernel
theorem d_M_bind_21 : decode b_M_bind 21 = .ok (.invokestatic 97, 3) := by decide +kernel
theorem d_M_bind_24 : decode b_M_bind 24 = .ok (.ifCond .ne 6, 3) := by decide +kernel
theorem d_M_bind_27 : decode b_M_bind 27 = .ok (.bipush (-2), 2) := by decide +kernel
theorem d_M_bind_29 : decode b_M_bind 29 = .ok (.ireturn, 1) := by decide +kernel
theorem d_M_bind_30 : decode b_M_bind 30 = .ok (.iconst 0, 1) := by decide +kernel
theorem d_M_bind_31 : decode b_M_bind 31 = .ok (.istore_n 3, 1) := by decide +kernel
theorem d_M_bind_32 : decode b_M_bind 32 = .ok (.iconst 0, 1) := by decide +kernel
theorem d_M_bind_33 : decode b_M_bind 33 = .ok (.istore 4, 2) := by decide +kernel
theorem d_M_bind_35 : decode b_M_bind 35 = .ok (.iload 4, 2) := by decide +kernel
theorem d_M_bind_37 : decode b_M_bind 37 = .ok (.iload_n 2, 1) := by decide +kernel
theorem d_M_bind_38 : decode b_M_bind 38 = .ok (.if_icmp .ge 42, 3) := by decide +kernel
theorem d_M_bind_41 : decode b_M_bind 41 = .ok (.aload_n 0, 1) := by decide +kernel
theorem d_M_bind_42 : decode b_M_bind 42 = .ok (.iload_n 1, 1) := by decide +kernel
theorem d_M_bind_43 : decode b_M_bind 43 = .ok (.iload_n 3, 1) := by decide +kernel
theorem d_M_bind_44 : decode b_M_bind 44 = .ok (.invokevirtual 131, 3) := by decide +kernel
theorem d_M_bind_47 : decode b_M_bind 47 = .ok (.istore 5, 2) := by decide +kernel
theorem d_M_bind_49 : decode b_M_bind 49 = .ok (.iload 5, 2) := by decide +kernel
theorem d_M_bind_51 : decode b_M_bind 51 = .ok (.ifCond .lt 12, 3) := by decide +kernel
theorem d_M_bind_54 : decode b_M_bind 54 = .ok (.aload_n 0, 1) := by decide +kernel
theorem d_M_bind_55 : decode b_M_bind 55 = .ok (.iload 5, 2) := by decide +kernel
theorem d_M_bind_57 : decode b_M_bind 57 = .ok (.invokevirtual 128, 3) := by decide +kernel
theorem d_M_bind_60 : decode b_M_bind 60 = .ok (.ifCond .eq 6, 3) := by decide +kernel
theorem d_M_bind_63 : decode b_M_bind 63 = .ok (.bipush (-3), 2) := by decide +kernel
theorem d_M_bind_65 : decode b_M_bind 65 = .ok (.ireturn, 1) := by decide +kernel
theorem d_M_bind_66 : decode b_M_bind 66 = .ok (.aload_n 0, 1) := by decide +kernel
theorem d_M_bind_67 : decode b_M_bind 67 = .ok (.getfield 22, 3) := by decide +kernel
theorem d_M_bind_70 : decode b_M_bind 70 = .ok (.iload 5, 2) := by decide +kernel
theorem d_M_bind_72 : decode b_M_bind 72 = .ok (.iaload, 1) := by decide +kernel
theorem d_M_bind_73 : decode b_M_bind 73 = .ok (.istore_n 3, 1) := by decide +kernel
theorem d_M_bind_74 : decode b_M_bind 74 = .ok (.iinc 4 1, 3) := by decide +kernel
theorem d_M_bind_77 : decode b_M_bind 77 = .ok (.goto (-42), 3) := by decide +kernel
theorem d_M_bind_80 : decode b_M_bind 80 = .ok (.aload_n 0, 1) := by decide +kernel
theorem d_M_bind_81 : decode b_M_bind 81 = .ok (.getfield 135, 3) := by decide +kernel
theorem d_M_bind_84 : decode b_M_bind 84 = .ok (.bipush 40, 2) := by decide +kernel
theorem d_M_bind_86 : decode b_M_bind 86 = .ok (.if_icmp .ne 6, 3) := by decide +kernel
theorem d_M_bind_89 : decode b_M_bind 89 = .ok (.bipush (-4), 2) := by decide +kernel
theorem d_M_bind_91 : decode b_M_bind 91 = .ok (.ireturn, 1) := by decide +kernel
theorem d_M_bind_92 : decode b_M_bind 92 = .ok (.iconst 0, 1) := by decide +kernel
theorem d_M_bind_93 : decode b_M_bind 93 = .ok (.istore 4, 2) := by decide +kernel
theorem d_M_bind_95 : decode b_M_bind 95 = .ok (.iload 4, 2) := by decide +kernel
theorem d_M_bind_97 : decode b_M_bind 97 = .ok (.aload_n 0, 1) := by decide +kernel
theorem d_M_bind_98 : decode b_M_bind 98 = .ok (.getfield 101, 3) := by decide +kernel
theorem d_M_bind_101 : decode b_M_bind 101 = .ok (.if_icmp .ge 64, 3) := by decide +kernel
theorem d_M_bind_104 : decode b_M_bind 104 = .ok (.aload_n 0, 1) := by decide +kernel
theorem d_M_bind_105 : decode b_M_bind 105 = .ok (.getfield 19, 3) := by decide +kernel
theorem d_M_bind_108 : decode b_M_bind 108 = .ok (.iload 4, 2) := by decide +kernel
theorem d_M_bind_110 : decode b_M_bind 110 = .ok (.iaload, 1) := by decide +kernel
theorem d_M_bind_111 : decode b_M_bind 111 = .ok (.iload_n 1, 1) := by decide +kernel
theorem d_M_bind_112 : decode b_M_bind 112 = .ok (.if_icmp .ne 47, 3) := by decide +kernel
theorem d_M_bind_115 : decode b_M_bind 115 = .ok (.aload_n 0, 1) := by decide +kernel
theorem d_M_bind_116 : decode b_M_bind 116 = .ok (.getfield 25, 3) := by decide +kernel
theorem d_M_bind_119 : decode b_M_bind 119 = .ok (.iload 4, 2) := by decide +kernel
theorem d_M_bind_121 : decode b_M_bind 121 = .ok (.iaload, 1) := by decide +kernel
theorem d_M_bind_122 : decode b_M_bind 122 = .ok (.iconst 3, 1) := by decide +kernel
theorem d_M_bind_123 : decode b_M_bind 123 = .ok (.if_icmp .ne 36, 3) := by decide +kernel
theorem d_M_bind_126 : decode b_M_bind 126 = .ok (.aload_n 0, 1) := by decide +kernel
theorem d_M_bind_127 : decode b_M_bind 127 = .ok (.getfield 22, 3) := by decide +kernel
theorem d_M_bind_130 : decode b_M_bind 130 = .ok (.iload 4, 2) := by decide +kernel
theorem d_M_bind_132 : decode b_M_bind 132 = .ok (.iaload, 1) := by decide +kernel
theorem d_M_bind_133 : decode b_M_bind 133 = .ok (.iload_n 3, 1) := by decide +kernel
theorem d_M_bind_134 : decode b_M_bind 134 = .ok (.if_icmp .le 6, 3) := by decide +kernel
theorem d_M_bind_137 : decode b_M_bind 137 = .ok (.goto 22, 3) := by decide +kernel
theorem d_M_bind_140 : decode b_M_bind 140 = .ok (.aload_n 0, 1) := by decide +kernel
theorem d_M_bind_141 : decode b_M_bind 141 = .ok (.getfield 25, 3) := by decide +kernel
theorem d_M_bind_144 : decode b_M_bind 144 = .ok (.iload 4, 2) := by decide +kernel
theorem d_M_bind_146 : decode b_M_bind 146 = .ok (.iconst 5, 1) := by decide +kernel
theorem d_M_bind_147 : decode b_M_bind 147 = .ok (.iastore, 1) := by decide +kernel
theorem d_M_bind_148 : decode b_M_bind 148 = .ok (.aload_n 0, 1) := by decide +kernel
theorem d_M_bind_149 : decode b_M_bind 149 = .ok (.getfield 43, 3) := by decide +kernel
theorem d_M_bind_152 : decode b_M_bind 152 = .ok (.iload 4, 2) := by decide +kernel
theorem d_M_bind_154 : decode b_M_bind 154 = .ok (.aload_n 0, 1) := by decide +kernel
theorem d_M_bind_155 : decode b_M_bind 155 = .ok (.getfield 135, 3) := by decide +kernel
theorem d_M_bind_158 : decode b_M_bind 158 = .ok (.iastore, 1) := by decide +kernel
theorem d_M_bind_159 : decode b_M_bind 159 = .ok (.iinc 4 1, 3) := by decide +kernel
theorem d_M_bind_162 : decode b_M_bind 162 = .ok (.goto (-67), 3) := by decide +kernel
theorem d_M_bind_165 : decode b_M_bind 165 = .ok (.aload_n 0, 1) := by decide +kernel
theorem d_M_bind_166 : decode b_M_bind 166 = .ok (.dup, 1) := by decide +kernel
theorem d_M_bind_167 : decode b_M_bind 167 = .ok (.getfield 135, 3) := by decide +kernel
theorem d_M_bind_170 : decode b_M_bind 170 = .ok (.iconst 1, 1) := by decide +kernel
theorem d_M_bind_171 : decode b_M_bind 171 = .ok (.iadd, 1) := by decide +kernel
theorem d_M_bind_172 : decode b_M_bind 172 = .ok (.putfield 135, 3) := by decide +kernel
theorem d_M_bind_175 : decode b_M_bind 175 = .ok (.aload_n 0, 1) := by decide +kernel
theorem d_M_bind_176 : decode b_M_bind 176 = .ok (.getfield 135, 3) := by decide +kernel
theorem d_M_bind_179 : decode b_M_bind 179 = .ok (.iconst 1, 1) := by decide +kernel
theorem d_M_bind_180 : decode b_M_bind 180 = .ok (.isub, 1) := by decide +kernel
theorem d_M_bind_181 : decode b_M_bind 181 = .ok (.ireturn, 1) := by decide +kernel
theorem d_M_nextHere_0 : decode b_M_nextHere 0 = .ok (.iconst (-1), 1) := by decide +kernel
theorem d_M_nextHere_1 : decode b_M_nextHere 1 = .ok (.istore_n 3, 1) := by decide +kernel
theorem d_M_nextHere_2 : decode b_M_nextHere 2 = .ok (.iconst 0, 1) := by decide +kernel
theorem d_M_nextHere_3 : decode b_M_nextHere 3 = .ok (.istore 4, 2) := by decide +kernel
theorem d_M_nextHere_5 : decode b_M_nextHere 5 = .ok (.iload 4, 2) := by decide +kernel
theorem d_M_nextHere_7 : decode b_M_nextHere 7 = .ok (.aload_n 0, 1) := by decide +kernel
theorem d_M_nextHere_8 : decode b_M_nextHere 8 = .ok (.getfield 101, 3) := by decide +kernel
theorem d_M_nextHere_11 : decode b_M_nextHere 11 = .ok (.if_icmp .ge 68, 3) := by decide +kernel
theorem d_M_nextHere_14 : decode b_M_nextHere 14 = .ok (.aload_n 0, 1) := by decide +kernel
theorem d_M_nextHere_15 : decode b_M_nextHere 15 = .ok (.getfield 19, 3) := by decide +kernel
theorem d_M_nextHere_18 : decode b_M_nextHere 18 = .ok (.iload 4, 2) := by decide +kernel
theorem d_M_nextHere_20 : decode b_M_nextHere 20 = .ok (.iaload, 1) := by decide +kernel
theorem d_M_nextHere_21 : decode b_M_nextHere 21 = .ok (.iload_n 1, 1) := by decide +kernel
theorem d_M_nextHere_22 : decode b_M_nextHere 22 = .ok (.if_icmp .ne 51, 3) := by decide +kernel
theorem d_M_nextHere_25 : decode b_M_nextHere 25 = .ok (.aload_n 0, 1) := by decide +kernel
theorem d_M_nextHere_26 : decode b_M_nextHere 26 = .ok (.getfield 25, 3) := by decide +kernel
theorem d_M_nextHere_29 : decode b_M_nextHere 29 = .ok (.iload 4, 2) := by decide +kernel
theorem d_M_nextHere_31 : decode b_M_nextHere 31 = .ok (.iaload, 1) := by decide +kernel
theorem d_M_nextHere_32 : decode b_M_nextHere 32 = .ok (.iconst 3, 1) := by decide +kernel
theorem d_M_nextHere_33 : decode b_M_nextHere 33 = .ok (.if_icmp .ne 40, 3) := by decide +kernel
theorem d_M_nextHere_36 : decode b_M_nextHere 36 = .ok (.aload_n 0, 1) := by decide +kernel
theorem d_M_nextHere_37 : decode b_M_nextHere 37 = .ok (.getfield 22, 3) := by decide +kernel
theorem d_M_nextHere_40 : decode b_M_nextHere 40 = .ok (.iload 4, 2) := by decide +kernel
theorem d_M_nextHere_42 : decode b_M_nextHere 42 = .ok (.iaload, 1) := by decide +kernel
theorem d_M_nextHere_43 : decode b_M_nextHere 43 = .ok (.iload_n 2, 1) := by decide +kernel
theorem d_M_nextHere_44 : decode b_M_nextHere 44 = .ok (.if_icmp .gt 6, 3) := by decide +kernel
theorem d_M_nextHere_47 : decode b_M_nextHere 47 = .ok (.goto 26, 3) := by decide +kernel
theorem d_M_nextHere_50 : decode b_M_nextHere 50 = .ok (.iload_n 3, 1) := by decide +kernel
theorem d_M_nextHere_51 : decode b_M_nextHere 51 = .ok (.ifCond .lt 19, 3) := by decide +kernel
theorem d_M_nextHere_54 : decode b_M_nextHere 54 = .ok (.aload_n 0, 1) := by decide +kernel
theorem d_M_nextHere_55 : decode b_M_nextHere 55 = .ok (.getfield 22, 3) := by decide +kernel
theorem d_M_nextHere_58 : decode b_M_nextHere 58 = .ok (.iload 4, 2) := by decide +kernel
theorem d_M_nextHere_60 : decode b_M_nextHere 60 = .ok (.iaload, 1) := by decide +kernel
