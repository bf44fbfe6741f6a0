theorem d_T_offered_21 : decode c_T_offered 21 = .ok (.iconst (-1), 1) := by decide +kernel
theorem d_T_offered_22 : decode c_T_offered 22 = .ok (.ireturn, 1) := by decide +kernel
theorem d_T_may_0 : decode c_T_may 0 = .ok (.aload_n 0, 1) := by decide +kernel
theorem d_T_may_1 : decode c_T_may 1 = .ok (.iconst 0, 1) := by decide +kernel
theorem d_T_may_2 : decode c_T_may 2 = .ok (.putfield 89, 3) := by decide +kernel
theorem d_T_may_5 : decode c_T_may 5 = .ok (.aload_n 0, 1) := by decide +kernel
theorem d_T_may_6 : decode c_T_may 6 = .ok (.iload_n 1, 1) := by decide +kernel
theorem d_T_may_7 : decode c_T_may 7 = .ok (.invokevirtual 134, 3) := by decide +kernel
theorem d_T_may_10 : decode c_T_may 10 = .ok (.ifCond .eq 24, 3) := by decide +kernel
theorem d_T_may_13 : decode c_T_may 13 = .ok (.aload_n 0, 1) := by decide +kernel
theorem d_T_may_14 : decode c_T_may 14 = .ok (.iload_n 2, 1) := by decide +kernel
theorem d_T_may_15 : decode c_T_may 15 = .ok (.invokevirtual 104, 3) := by decide +kernel
theorem d_T_may_18 : decode c_T_may 18 = .ok (.ifCond .eq 16, 3) := by decide +kernel
theorem d_T_may_21 : decode c_T_may 21 = .ok (.aload_n 0, 1) := by decide +kernel
theorem d_T_may_22 : decode c_T_may 22 = .ok (.iload_n 1, 1) := by decide +kernel
theorem d_T_may_23 : decode c_T_may 23 = .ok (.iload_n 2, 1) := by decide +kernel
theorem d_T_may_24 : decode c_T_may 24 = .ok (.invokevirtual 144, 3) := by decide +kernel
theorem d_T_may_27 : decode c_T_may 27 = .ok (.ifCond .eq 7, 3) := by decide +kernel
theorem d_T_may_30 : decode c_T_may 30 = .ok (.iconst 1, 1) := by decide +kernel
theorem d_T_may_31 : decode c_T_may 31 = .ok (.goto 4, 3) := by decide +kernel
theorem d_T_may_34 : decode c_T_may 34 = .ok (.iconst 0, 1) := by decide +kernel
theorem d_T_may_35 : decode c_T_may 35 = .ok (.ireturn, 1) := by decide +kernel
theorem d_T_delta_0 : decode c_T_delta 0 = .ok (.aload_n 0, 1) := by decide +kernel
theorem d_T_delta_1 : decode c_T_delta 1 = .ok (.iconst 0, 1) := by decide +kernel
theorem d_T_delta_2 : decode c_T_delta 2 = .ok (.putfield 89, 3) := by decide +kernel
theorem d_T_delta_5 : decode c_T_delta 5 = .ok (.aload_n 0, 1) := by decide +kernel
theorem d_T_delta_6 : decode c_T_delta 6 = .ok (.iload_n 1, 1) := by decide +kernel
theorem d_T_delta_7 : decode c_T_delta 7 = .ok (.invokevirtual 104, 3) := by decide +kernel
theorem d_T_delta_10 : decode c_T_delta 10 = .ok (.ifCond .eq 27, 3) := by decide +kernel
theorem d_T_delta_13 : decode c_T_delta 13 = .ok (.aload_n 0, 1) := by decide +kernel
theorem d_T_delta_14 : decode c_T_delta 14 = .ok (.iload_n 2, 1) := by decide +kernel
theorem d_T_delta_15 : decode c_T_delta 15 = .ok (.invokevirtual 104, 3) := by decide +kernel
theorem d_T_delta_18 : decode c_T_delta 18 = .ok (.ifCond .eq 19, 3) := by decide +kernel
theorem d_T_delta_21 : decode c_T_delta 21 = .ok (.iload_n 1, 1) := by decide +kernel
theorem d_T_delta_22 : decode c_T_delta 22 = .ok (.iload_n 2, 1) := by decide +kernel
theorem d_T_delta_23 : decode c_T_delta 23 = .ok (.if_icmp .eq 14, 3) := by decide +kernel
theorem d_T_delta_26 : decode c_T_delta 26 = .ok (.iload_n 3, 1) := by decide +kernel
theorem d_T_delta_27 : decode c_T_delta 27 = .ok (.iconst 1, 1) := by decide +kernel
theorem d_T_delta_28 : decode c_T_delta 28 = .ok (.sipush 1000, 3) := by decide +kernel
theorem d_T_delta_31 : decode c_T_delta 31 = .ok (.invokestatic 99, 3) := by decide +kernel
theorem d_T_delta_34 : decode c_T_delta 34 = .ok (.ifCond .ne 5, 3) := by decide +kernel
theorem d_T_delta_37 : decode c_T_delta 37 = .ok (.iconst 0, 1) := by decide +kernel
theorem d_T_delta_38 : decode c_T_delta 38 = .ok (.ireturn, 1) := by decide +kernel
theorem d_T_delta_39 : decode c_T_delta 39 = .ok (.iconst 0, 1) := by decide +kernel
theorem d_T_delta_40 : decode c_T_delta 40 = .ok (.istore 4, 2) := by decide +kernel
theorem d_T_delta_42 : decode c_T_delta 42 = .ok (.iload 4, 2) := by decide +kernel
theorem d_T_delta_44 : decode c_T_delta 44 = .ok (.aload_n 0, 1) := by decide +kernel
theorem d_T_delta_45 : decode c_T_delta 45 = .ok (.getfield 150, 3) := by decide +kernel
theorem d_T_delta_48 : decode c_T_delta 48 = .ok (.if_icmp .ge 31, 3) := by decide +kernel
theorem d_T_delta_51 : decode c_T_delta 51 = .ok (.aload_n 0, 1) := by decide +kernel
theorem d_T_delta_52 : decode c_T_delta 52 = .ok (.getfield 68, 3) := by decide +kernel
theorem d_T_delta_55 : decode c_T_delta 55 = .ok (.iload 4, 2) := by decide +kernel
theorem d_T_delta_57 : decode c_T_delta 57 = .ok (.iaload, 1) := by decide +kernel
theorem d_T_delta_58 : decode c_T_delta 58 = .ok (.iload_n 1, 1) := by decide +kernel
theorem d_T_delta_59 : decode c_T_delta 59 = .ok (.if_icmp .ne 14, 3) := by decide +kernel
theorem d_T_delta_62 : decode c_T_delta 62 = .ok (.aload_n 0, 1) := by decide +kernel
theorem d_T_delta_63 : decode c_T_delta 63 = .ok (.getfield 71, 3) := by decide +kernel
theorem d_T_delta_66 : decode c_T_delta 66 = .ok (.iload 4, 2) := by decide +kernel
theorem d_T_delta_68 : decode c_T_delta 68 = .ok (.iaload, 1) := by decide +kernel
theorem d_T_delta_69 : decode c_T_delta 69 = .ok (.iload_n 2, 1) := by decide +kernel
theorem d_T_delta_70 : decode c_T_delta 70 = .ok (.if_icmp .eq 9, 3) := by decide +kernel
theorem d_T_delta_73 : decode c_T_delta 73 = .ok (.iinc 4 1, 3) := by decide +kernel
theorem d_T_delta_76 : decode c_T_delta 76 = .ok (.goto (-34), 3) := by decide +kernel
theorem d_T_delta_79 : decode c_T_delta 79 = .ok (.iload 4, 2) := by decide +kernel
theorem d_T_delta_81 : decode c_T_delta 81 = .ok (.bipush 40, 2) := by decide +kernel
theorem d_T_delta_83 : decode c_T_delta 83 = .ok (.if_icmp .ne 5, 3) := by decide +kernel
theorem d_T_delta_86 : decode c_T_delta 86 = .ok (.iconst 0, 1) := by decide +kernel
theorem d_T_delta_87 : decode c_T_delta 87 = .ok (.ireturn, 1) := by decide +kernel
theorem d_T_delta_88 : decode c_T_delta 88 = .ok (.aload_n 0, 1) := by decide +kernel
theorem d_T_delta_89 : decode c_T_delta 89 = .ok (.getfield 68, 3) := by decide +kernel
theorem d_T_delta_92 : decode c_T_delta 92 = .ok (.iload 4, 2) := by decide +kernel
theorem d_T_delta_94 : decode c_T_delta 94 = .ok (.iload_n 1, 1) := by decide +kernel
theorem d_T_delta_95 : decode c_T_delta 95 = .ok (.iastore, 1) := by decide +kernel
theorem d_T_delta_96 : decode c_T_delta 96 = .ok (.aload_n 0, 1) := by decide +kernel
theorem d_T_delta_97 : decode c_T_delta 97 = .ok (.getfield 71, 3) := by decide +kernel
theorem d_T_delta_100 : decode c_T_delta 100 = .ok (.iload 4, 2) := by decide +kernel
theorem d_T_delta_102 : decode c_T_delta 102 = .ok (.iload_n 2, 1) := by decide +kernel
theorem d_T_delta_103 : decode c_T_delta 103 = .ok (.iastore, 1) := by decide +kernel
theorem d_T_delta_104 : decode c_T_delta 104 = .ok (.aload_n 0, 1) := by decide +kernel
theorem d_T_delta_105 : decode c_T_delta 105 = .ok (.getfield 74, 3) := by decide +kernel
theorem d_T_delta_108 : decode c_T_delta 108 = .ok (.iload 4, 2) := by decide +kernel
theorem d_T_delta_110 : decode c_T_delta 110 = .ok (.iload_n 3, 1) := by decide +kernel
theorem d_T_delta_111 : decode c_T_delta 111 = .ok (.iastore, 1) := by decide +kernel
theorem d_T_delta_112 : decode c_T_delta 112 = .ok (.aload_n 0, 1) := by decide +kernel
theorem d_T_delta_113 : decode c_T_delta 113 = .ok (.dup, 1) := by decide +kernel
theorem d_T_delta_114 : decode c_T_delta 114 = .ok (.getfield 150, 3) := by decide +kernel
theorem d_T_delta_117 : decode c_T_delta 117 = .ok (.iload 4, 2) := by decide +kernel
theorem d_T_delta_119 : decode c_T_delta 119 = .ok (.aload_n 0, 1) := by decide +kernel
theorem d_T_delta_120 : decode c_T_delta 120 = .ok (.getfield 150, 3) := by decide +kernel
theorem d_T_delta_123 : decode c_T_delta 123 = .ok (.if_icmp .ne 7, 3) := by decide +kernel
theorem d_T_delta_126 : decode c_T_delta 126 = .ok (.iconst 1, 1) := by decide +kernel
theorem d_T_delta_127 : decode c_T_delta 127 = .ok (.goto 4, 3) := by decide +kernel
theorem d_T_delta_130 : decode c_T_delta 130 = .ok (.iconst 0, 1) := by decide +kernel
theorem d_T_delta_131 : decode c_T_delta 131 = .ok (.iadd, 1) := by decide +kernel
theorem d_T_delta_132 : decode c_T_delta 132 = .ok (.putfield 150, 3) := by decide +kernel
theorem d_T_delta_135 : decode c_T_delta 135 = .ok (.iconst 1, 1) := by decide +kernel
theorem d_T_delta_136 : decode c_T_delta 136 = .ok (.ireturn, 1) := by decide +kernel
theorem d_T_findWays_0 : decode c_T_findWays 0 = .ok (.iconst 0, 1) := by decide +kernel
theorem d_T_findWays_1 : decode c_T_findWays 1 = .ok (.istore_n 2, 1) := by decide +kernel
theorem d_T_findWays_2 : decode c_T_findWays 2 = .ok (.iload_n 2, 1) := by decide +kernel
theorem d_T_findWays_3 : decode c_T_findWays 3 = .ok (.bipush 16, 2) := by decide +kernel
theorem d_T_findWays_5 : decode c_T_findWays 5 = .ok (.if_icmp .ge 33, 3) := by decide +kernel
theorem d_T_findWays_8 : decode c_T_findWays 8 = .ok (.aload_n 0, 1) := by decide +kernel
theorem d_T_findWays_9 : decode c_T_findWays 9 = .ok (.getfield 77, 3) := by decide +kernel
theorem d_T_findWays_12 : decode c_T_findWays 12 = .ok (.iload_n 2, 1) := by decide +kernel
theorem d_T_findWays_13 : decode c_T_findWays 13 = .ok (.iload_n 2, 1) := by decide +kernel
theorem d_T_findWays_14 : decode c_T_findWays 14 = .ok (.iload_n 1, 1) := by decide +kernel
theorem d_T_findWays_15 : decode c_T_findWays 15 = .ok (.if_icmp .ne 7, 3) := by decide +kernel
theorem d_T_findWays_18 : decode c_T_findWays 18 = .ok (.iconst 0, 1) := by decide +kernel
theorem d_T_findWays_19 : decode c_T_findWays 19 = .ok (.goto 5, 3) := by decide +kernel
theorem d_T_findWays_22 : decode c_T_findWays 22 = .ok (.ldc 153, 2) := by decide +kernel
theorem d_T_findWays_24 : decode c_T_findWays 24 = .ok (.iastore, 1) := by decide +kernel
theorem d_T_findWays_25 : decode c_T_findWays 25 = .ok (.aload_n 0, 1) := by decide +kernel
theorem d_T_findWays_26 : decode c_T_findWays 26 = .ok (.getfield 80, 3) := by decide +kernel
theorem d_T_findWays_29 : decode c_T_findWays 29 = .ok (.iload_n 2, 1) := by decide +kernel
theorem d_T_findWays_30 : decode c_T_findWays 30 = .ok (.iconst 0, 1) := by decide +kernel
theorem d_T_findWays_31 : decode c_T_findWays 31 = .ok (.iastore, 1) := by decide +kernel
theorem d_T_findWays_32 : decode c_T_findWays 32 = .ok (.iinc 2 1, 3) := by decide +kernel
theorem d_T_findWays_35 : decode c_T_findWays 35 = .ok (.goto (-33), 3) := by decide +kernel
theorem d_T_findWays_38 : decode c_T_findWays 38 = .ok (.iconst 1, 1) := by decide +kernel
theorem d_T_findWays_39 : decode c_T_findWays 39 = .ok (.istore_n 2, 1) := by decide +kernel
theorem d_T_findWays_40 : decode c_T_findWays 40 = .ok (.iload_n 2, 1) := by decide +kernel
theorem d_T_findWays_41 : decode c_T_findWays 41 = .ok (.iconst 4, 1) := by decide +kernel
theorem d_T_findWays_42 : decode c_T_findWays 42 = .ok (.if_icmp .gt 206, 3) := by decide +kernel
theorem d_T_findWays_45 : decode c_T_findWays 45 = .ok (.iconst 0, 1) := by decide +kernel
theorem d_T_findWays_46 : decode c_T_findWays 46 = .ok (.istore_n 3, 1) := by decide +kernel
theorem d_T_findWays_47 : decode c_T_findWays 47 = .ok (.iload_n 3, 1) := by decide +kernel
theorem d_T_findWays_48 : decode c_T_findWays 48 = .ok (.bipush 16, 2) := by decide +kernel
theorem d_T_findWays_50 : decode c_T_findWays 50 = .ok (.if_icmp .ge 33, 3) := by decide +kernel
theorem d_T_findWays_53 : decode c_T_findWays 53 = .ok (.aload_n 0, 1) := by decide +kernel
theorem d_T_findWays_54 : decode c_T_findWays 54 = .ok (.getfield 83, 3) := by decide +kernel
theorem d_T_findWays_57 : decode c_T_findWays 57 = .ok (.iload_n 3, 1) := by decide +kernel
theorem d_T_findWays_58 : decode c_T_findWays 58 = .ok (.aload_n 0, 1) := by decide +kernel
theorem d_T_findWays_59 : decode c_T_findWays 59 = .ok (.getfield 77, 3) := by decide +kernel
theorem d_T_findWays_62 : decode c_T_findWays 62 = .ok (.iload_n 3, 1) := by decide +kernel
theorem d_T_findWays_63 : decode c_T_findWays 63 = .ok (.iaload, 1) := by decide +kernel
theorem d_T_findWays_64 : decode c_T_findWays 64 = .ok (.iastore, 1) := by decide +kernel
theorem d_T_findWays_65 : decode c_T_findWays 65 = .ok (.aload_n 0, 1) := by decide +kernel
theorem d_T_findWays_66 : decode c_T_findWays 66 = .ok (.getfield 86, 3) := by decide +kernel
theorem d_T_findWays_69 : decode c_T_findWays 69 = .ok (.iload_n 3, 1) := by decide +kernel
theorem d_T_findWays_70 : decode c_T_findWays 70 = .ok (.aload_n 0, 1) := by decide +kernel
theorem d_T_findWays_71 : decode c_T_findWays 71 = .ok (.getfield 80, 3) := by decide +kernel
theorem d_T_findWays_74 : decode c_T_findWays 74 = .ok (.iload_n 3, 1) := by decide +kernel
theorem d_T_findWays_75 : decode c_T_findWays 75 = .ok (.iaload, 1) := by decide +kernel
theorem d_T_findWays_76 : decode c_T_findWays 76 = .ok (.iastore, 1) := by decide +kernel
theorem d_T_findWays_77 : decode c_T_findWays 77 = .ok (.iinc 3 1, 3) := by decide +kernel
theorem d_T_findWays_80 : decode c_T_findWays 80 = .ok (.goto (-33), 3) := by decide +kernel
theorem d_T_findWays_83 : decode c_T_findWays 83 = .ok (.iconst 0, 1) := by decide +kernel
theorem d_T_findWays_84 : decode c_T_findWays 84 = .ok (.istore_n 3, 1) := by decide +kernel
theorem d_T_findWays_85 : decode c_T_findWays 85 = .ok (.iload_n 3, 1) := by decide +kernel
theorem d_T_findWays_86 : decode c_T_findWays 86 = .ok (.aload_n 0, 1) := by decide +kernel
theorem d_T_findWays_87 : decode c_T_findWays 87 = .ok (.getfield 150, 3) := by decide +kernel
theorem d_T_findWays_90 : decode c_T_findWays 90 = .ok (.if_icmp .ge 114, 3) := by decide +kernel
theorem d_T_findWays_93 : decode c_T_findWays 93 = .ok (.aload_n 0, 1) := by decide +kernel
theorem d_T_findWays_94 : decode c_T_findWays 94 = .ok (.getfield 68, 3) := by decide +kernel
theorem d_T_findWays_97 : decode c_T_findWays 97 = .ok (.iload_n 3, 1) := by decide +kernel
theorem d_T_findWays_98 : decode c_T_findWays 98 = .ok (.iaload, 1) := by decide +kernel
theorem d_T_findWays_99 : decode c_T_findWays 99 = .ok (.istore 4, 2) := by decide +kernel
theorem d_T_findWays_101 : decode c_T_findWays 101 = .ok (.aload_n 0, 1) := by decide +kernel
theorem d_T_findWays_102 : decode c_T_findWays 102 = .ok (.getfield 77, 3) := by decide +kernel
theorem d_T_findWays_105 : decode c_T_findWays 105 = .ok (.iload 4, 2) := by decide +kernel
theorem d_T_findWays_107 : decode c_T_findWays 107 = .ok (.iaload, 1) := by decide +kernel
theorem d_T_findWays_108 : decode c_T_findWays 108 = .ok (.ldc 153, 2) := by decide +kernel
theorem d_T_findWays_110 : decode c_T_findWays 110 = .ok (.if_icmp .eq 88, 3) := by decide +kernel
theorem d_T_findWays_113 : decode c_T_findWays 113 = .ok (.iload 4, 2) := by decide +kernel
theorem d_T_findWays_115 : decode c_T_findWays 115 = .ok (.iload_n 1, 1) := by decide +kernel
theorem d_T_findWays_116 : decode c_T_findWays 116 = .ok (.if_icmp .eq 14, 3) := by decide +kernel
theorem d_T_findWays_119 : decode c_T_findWays 119 = .ok (.aload_n 0, 1) := by decide +kernel
theorem d_T_findWays_120 : decode c_T_findWays 120 = .ok (.getfield 31, 3) := by decide +kernel
theorem d_T_findWays_123 : decode c_T_findWays 123 = .ok (.iload 4, 2) := by decide +kernel
theorem d_T_findWays_125 : decode c_T_findWays 125 = .ok (.iaload, 1) := by decide +kernel
theorem d_T_findWays_126 : decode c_T_findWays 126 = .ok (.iconst 4, 1) := by decide +kernel
theorem d_T_findWays_127 : decode c_T_findWays 127 = .ok (.if_icmp .eq 71, 3) := by decide +kernel
theorem d_T_findWays_130 : decode c_T_findWays 130 = .ok (.aload_n 0, 1) := by decide +kernel
theorem d_T_findWays_131 : decode c_T_findWays 131 = .ok (.getfield 77, 3) := by decide +kernel
theorem d_T_findWays_134 : decode c_T_findWays 134 = .ok (.iload 4, 2) := by decide +kernel
theorem d_T_findWays_136 : decode c_T_findWays 136 = .ok (.iaload, 1) := by decide +kernel
theorem d_T_findWays_137 : decode c_T_findWays 137 = .ok (.aload_n 0, 1) := by decide +kernel
theorem d_T_findWays_138 : decode c_T_findWays 138 = .ok (.getfield 74, 3) := by decide +kernel
theorem d_T_findWays_141 : decode c_T_findWays 141 = .ok (.iload_n 3, 1) := by decide +kernel
theorem d_T_findWays_142 : decode c_T_findWays 142 = .ok (.iaload, 1) := by decide +kernel
theorem d_T_findWays_143 : decode c_T_findWays 143 = .ok (.iadd, 1) := by decide +kernel
theorem d_T_findWays_144 : decode c_T_findWays 144 = .ok (.aload_n 0, 1) := by decide +kernel
theorem d_T_findWays_145 : decode c_T_findWays 145 = .ok (.getfield 83, 3) := by decide +kernel
theorem d_T_findWays_148 : decode c_T_findWays 148 = .ok (.aload_n 0, 1) := by decide +kernel
theorem d_T_findWays_149 : decode c_T_findWays 149 = .ok (.getfield 71, 3) := by decide +kernel
theorem d_T_findWays_152 : decode c_T_findWays 152 = .ok (.iload_n 3, 1) := by decide +kernel
theorem d_T_findWays_153 : decode c_T_findWays 153 = .ok (.iaload, 1) := by decide +kernel
theorem d_T_findWays_154 : decode c_T_findWays 154 = .ok (.iaload, 1) := by decide +kernel
theorem d_T_findWays_155 : decode c_T_findWays 155 = .ok (.if_icmp .lt 6, 3) := by decide +kernel
theorem d_T_findWays_158 : decode c_T_findWays 158 = .ok (.goto 40, 3) := by decide +kernel
theorem d_T_findWays_161 : decode c_T_findWays 161 = .ok (.aload_n 0, 1) := by decide +kernel
theorem d_T_findWays_162 : decode c_T_findWays 162 = .ok (.getfield 83, 3) := by decide +kernel
theorem d_T_findWays_165 : decode c_T_findWays 165 = .ok (.aload_n 0, 1) := by decide +kernel
theorem d_T_findWays_166 : decode c_T_findWays 166 = .ok (.getfield 71, 3) := by decide +kernel
theorem d_T_findWays_169 : decode c_T_findWays 169 = .ok (.iload_n 3, 1) := by decide +kernel
theorem d_T_findWays_170 : decode c_T_findWays 170 = .ok (.iaload, 1) := by decide +kernel
theorem d_T_findWays_171 : decode c_T_findWays 171 = .ok (.aload_n 0, 1) := by decide +kernel
theorem d_T_findWays_172 : decode c_T_findWays 172 = .ok (.getfield 77, 3) := by decide +kernel
theorem d_T_findWays_175 : decode c_T_findWays 175 = .ok (.iload 4, 2) := by decide +kernel
theorem d_T_findWays_177 : decode c_T_findWays 177 = .ok (.iaload, 1) := by decide +kernel
theorem d_T_findWays_178 : decode c_T_findWays 178 = .ok (.aload_n 0, 1) := by decide +kernel
theorem d_T_findWays_179 : decode c_T_findWays 179 = .ok (.getfield 74, 3) := by decide +kernel
theorem d_T_findWays_182 : decode c_T_findWays 182 = .ok (.iload_n 3, 1) := by decide +kernel
theorem d_T_findWays_183 : decode c_T_findWays 183 = .ok (.iaload, 1) := by decide +kernel
theorem d_T_findWays_184 : decode c_T_findWays 184 = .ok (.iadd, 1) := by decide +kernel
theorem d_T_findWays_185 : decode c_T_findWays 185 = .ok (.iastore, 1) := by decide +kernel
theorem d_T_findWays_186 : decode c_T_findWays 186 = .ok (.aload_n 0, 1) := by decide +kernel
theorem d_T_findWays_187 : decode c_T_findWays 187 = .ok (.getfield 86, 3) := by decide +kernel
theorem d_T_findWays_190 : decode c_T_findWays 190 = .ok (.aload_n 0, 1) := by decide +kernel
theorem d_T_findWays_191 : decode c_T_findWays 191 = .ok (.getfield 71, 3) := by decide +kernel
theorem d_T_findWays_194 : decode c_T_findWays 194 = .ok (.iload_n 3, 1) := by decide +kernel
theorem d_T_findWays_195 : decode c_T_findWays 195 = .ok (.iaload, 1) := by decide +kernel
theorem d_T_findWays_196 : decode c_T_findWays 196 = .ok (.iload_n 2, 1) := by decide +kernel
theorem d_T_findWays_197 : decode c_T_findWays 197 = .ok (.iastore, 1) := by decide +kernel
theorem d_T_findWays_198 : decode c_T_findWays 198 = .ok (.iinc 3 1, 3) := by decide +kernel
theorem d_T_findWays_201 : decode c_T_findWays 201 = .ok (.goto (-116), 3) := by decide +kernel
theorem d_T_findWays_204 : decode c_T_findWays 204 = .ok (.iconst 0, 1) := by decide +kernel
theorem d_T_findWays_205 : decode c_T_findWays 205 = .ok (.istore_n 3, 1) := by decide +kernel
theorem d_T_findWays_206 : decode c_T_findWays 206 = .ok (.iload_n 3, 1) := by decide +kernel
theorem d_T_findWays_207 : decode c_T_findWays 207 = .ok (.bipush 16, 2) := by decide +kernel
theorem d_T_findWays_209 : decode c_T_findWays 209 = .ok (.if_icmp .ge 33, 3) := by decide +kernel
theorem d_T_findWays_212 : decode c_T_findWays 212 = .ok (.aload_n 0, 1) := by decide +kernel
theorem d_T_findWays_213 : decode c_T_findWays 213 = .ok (.getfield 77, 3) := by decide +kernel
theorem d_T_findWays_216 : decode c_T_findWays 216 = .ok (.iload_n 3, 1) := by decide +kernel
theorem d_T_findWays_217 : decode c_T_findWays 217 = .ok (.aload_n 0, 1) := by decide +kernel
theorem d_T_findWays_218 : decode c_T_findWays 218 = .ok (.getfield 83, 3) := by decide +kernel
theorem d_T_findWays_221 : decode c_T_findWays 221 = .ok (.iload_n 3, 1) := by decide +kernel
theorem d_T_findWays_222 : decode c_T_findWays 222 = .ok (.iaload, 1) := by decide +kernel
theorem d_T_findWays_223 : decode c_T_findWays 223 = .ok (.iastore, 1) := by decide +kernel
theorem d_T_findWays_224 : decode c_T_findWays 224 = .ok (.aload_n 0, 1) := by decide +kernel
theorem d_T_findWays_225 : decode c_T_findWays 225 = .ok (.getfield 80, 3) := by decide +kernel
theorem d_T_findWays_228 : decode c_T_findWays 228 = .ok (.iload_n 3, 1) := by decide +kernel
theorem d_T_findWays_229 : decode c_T_findWays 229 = .ok (.aload_n 0, 1) := by decide +kernel
theorem d_T_findWays_230 : decode c_T_findWays 230 = .ok (.getfield 86, 3) := by decide +kernel
theorem d_T_findWays_233 : decode c_T_findWays 233 = .ok (.iload_n 3, 1) := by decide +kernel
theorem d_T_findWays_234 : decode c_T_findWays 234 = .ok (.iaload, 1) := by decide +kernel
theorem d_T_findWays_235 : decode c_T_findWays 235 = .ok (.iastore, 1) := by decide +kernel
theorem d_T_findWays_236 : decode c_T_findWays 236 = .ok (.iinc 3 1, 3) := by decide +kernel
theorem d_T_findWays_239 : decode c_T_findWays 239 = .ok (.goto (-33), 3) := by decide +kernel
theorem d_T_findWays_242 : decode c_T_findWays 242 = .ok (.iinc 2 1, 3) := by decide +kernel
theorem d_T_findWays_245 : decode c_T_findWays 245 = .ok (.goto (-205), 3) := by decide +kernel
theorem d_T_findWays_248 : decode c_T_findWays 248 = .ok (.return_, 1) := by decide +kernel
theorem d_T_wanted_0 : decode c_T_wanted 0 = .ok (.aload_n 0, 1) := by decide +kernel
theorem d_T_wanted_1 : decode c_T_wanted 1 = .ok (.iload_n 1, 1) := by decide +kernel
theorem d_T_wanted_2 : decode c_T_wanted 2 = .ok (.invokevirtual 147, 3) := by decide +kernel
theorem d_T_wanted_5 : decode c_T_wanted 5 = .ok (.istore_n 2, 1) := by decide +kernel
theorem d_T_wanted_6 : decode c_T_wanted 6 = .ok (.iload_n 2, 1) := by decide +kernel
theorem d_T_wanted_7 : decode c_T_wanted 7 = .ok (.iconst (-1), 1) := by decide +kernel
theorem d_T_wanted_8 : decode c_T_wanted 8 = .ok (.if_icmp .eq 13, 3) := by decide +kernel
theorem d_T_wanted_11 : decode c_T_wanted 11 = .ok (.iload_n 2, 1) := by decide +kernel
theorem d_T_wanted_12 : decode c_T_wanted 12 = .ok (.aload_n 0, 1) := by decide +kernel
theorem d_T_wanted_13 : decode c_T_wanted 13 = .ok (.getfield 62, 3) := by decide +kernel
theorem d_T_wanted_16 : decode c_T_wanted 16 = .ok (.iload_n 1, 1) := by decide +kernel
theorem d_T_wanted_17 : decode c_T_wanted 17 = .ok (.iaload, 1) := by decide +kernel
theorem d_T_wanted_18 : decode c_T_wanted 18 = .ok (.if_icmp .ne 5, 3) := by decide +kernel
theorem d_T_wanted_21 : decode c_T_wanted 21 = .ok (.iconst (-1), 1) := by decide +kernel
theorem d_T_wanted_22 : decode c_T_wanted 22 = .ok (.ireturn, 1) := by decide +kernel
theorem d_T_wanted_23 : decode c_T_wanted 23 = .ok (.aload_n 0, 1) := by decide +kernel
theorem d_T_wanted_24 : decode c_T_wanted 24 = .ok (.getfield 62, 3) := by decide +kernel
theorem d_T_wanted_27 : decode c_T_wanted 27 = .ok (.iload_n 1, 1) := by decide +kernel
theorem d_T_wanted_28 : decode c_T_wanted 28 = .ok (.iaload, 1) := by decide +kernel
theorem d_T_wanted_29 : decode c_T_wanted 29 = .ok (.iconst (-1), 1) := by decide +kernel
theorem d_T_wanted_30 : decode c_T_wanted 30 = .ok (.if_icmp .eq 16, 3) := by decide +kernel
theorem d_T_wanted_33 : decode c_T_wanted 33 = .ok (.aload_n 0, 1) := by decide +kernel
theorem d_T_wanted_34 : decode c_T_wanted 34 = .ok (.aload_n 0, 1) := by decide +kernel
theorem d_T_wanted_35 : decode c_T_wanted 35 = .ok (.getfield 62, 3) := by decide +kernel
theorem d_T_wanted_38 : decode c_T_wanted 38 = .ok (.iload_n 1, 1) := by decide +kernel
theorem d_T_wanted_39 : decode c_T_wanted 39 = .ok (.iaload, 1) := by decide +kernel
theorem d_T_wanted_40 : decode c_T_wanted 40 = .ok (.invokevirtual 154, 3) := by decide +kernel
theorem d_T_wanted_43 : decode c_T_wanted 43 = .ok (.goto 11, 3) := by decide +kernel
theorem d_T_wanted_46 : decode c_T_wanted 46 = .ok (.aload_n 0, 1) := by decide +kernel
theorem d_T_wanted_47 : decode c_T_wanted 47 = .ok (.getfield 77, 3) := by decide +kernel
theorem d_T_wanted_50 : decode c_T_wanted 50 = .ok (.iload_n 2, 1) := by decide +kernel
theorem d_T_wanted_51 : decode c_T_wanted 51 = .ok (.ldc 153, 2) := by decide +kernel
theorem d_T_wanted_53 : decode c_T_wanted 53 = .ok (.iastore, 1) := by decide +kernel
theorem d_T_wanted_54 : decode c_T_wanted 54 = .ok (.iload_n 2, 1) := by decide +kernel
theorem d_T_wanted_55 : decode c_T_wanted 55 = .ok (.ireturn, 1) := by decide +kernel
theorem d_T_cost_0 : decode c_T_cost 0 = .ok (.aload_n 0, 1) := by decide +kernel
theorem d_T_cost_1 : decode c_T_cost 1 = .ok (.iconst 0, 1) := by decide +kernel
theorem d_T_cost_2 : decode c_T_cost 2 = .ok (.putfield 89, 3) := by decide +kernel
theorem d_T_cost_5 : decode c_T_cost 5 = .ok (.aload_n 0, 1) := by decide +kernel
theorem d_T_cost_6 : decode c_T_cost 6 = .ok (.iload_n 1, 1) := by decide +kernel
theorem d_T_cost_7 : decode c_T_cost 7 = .ok (.invokevirtual 134, 3) := by decide +kernel
theorem d_T_cost_10 : decode c_T_cost 10 = .ok (.ifCond .ne 5, 3) := by decide +kernel
theorem d_T_cost_13 : decode c_T_cost 13 = .ok (.iconst (-1), 1) := by decide +kernel
theorem d_T_cost_14 : decode c_T_cost 14 = .ok (.ireturn, 1) := by decide +kernel
theorem d_T_cost_15 : decode c_T_cost 15 = .ok (.aload_n 0, 1) := by decide +kernel
theorem d_T_cost_16 : decode c_T_cost 16 = .ok (.iload_n 1, 1) := by decide +kernel
theorem d_T_cost_17 : decode c_T_cost 17 = .ok (.invokevirtual 157, 3) := by decide +kernel
theorem d_T_cost_20 : decode c_T_cost 20 = .ok (.istore_n 2, 1) := by decide +kernel
theorem d_T_cost_21 : decode c_T_cost 21 = .ok (.iload_n 2, 1) := by decide +kernel
theorem d_T_cost_22 : decode c_T_cost 22 = .ok (.iconst (-1), 1) := by decide +kernel
theorem d_T_cost_23 : decode c_T_cost 23 = .ok (.if_icmp .ne 7, 3) := by decide +kernel
theorem d_T_cost_26 : decode c_T_cost 26 = .ok (.iconst 0, 1) := by decide +kernel
theorem d_T_cost_27 : decode c_T_cost 27 = .ok (.goto 33, 3) := by decide +kernel
theorem d_T_cost_30 : decode c_T_cost 30 = .ok (.aload_n 0, 1) := by decide +kernel
theorem d_T_cost_31 : decode c_T_cost 31 = .ok (.getfield 77, 3) := by decide +kernel
theorem d_T_cost_34 : decode c_T_cost 34 = .ok (.iload_n 2, 1) := by decide +kernel
theorem d_T_cost_35 : decode c_T_cost 35 = .ok (.iaload, 1) := by decide +kernel
theorem d_T_cost_36 : decode c_T_cost 36 = .ok (.aload_n 0, 1) := by decide +kernel
theorem d_T_cost_37 : decode c_T_cost 37 = .ok (.getfield 13, 3) := by decide +kernel
theorem d_T_cost_40 : decode c_T_cost 40 = .ok (.iload_n 2, 1) := by decide +kernel
theorem d_T_cost_41 : decode c_T_cost 41 = .ok (.iaload, 1) := by decide +kernel
theorem d_T_cost_42 : decode c_T_cost 42 = .ok (.if_icmp .ge 12, 3) := by decide +kernel
theorem d_T_cost_45 : decode c_T_cost 45 = .ok (.aload_n 0, 1) := by decide +kernel
theorem d_T_cost_46 : decode c_T_cost 46 = .ok (.getfield 77, 3) := by decide +kernel
theorem d_T_cost_49 : decode c_T_cost 49 = .ok (.iload_n 2, 1) := by decide +kernel
theorem d_T_cost_50 : decode c_T_cost 50 = .ok (.iaload, 1) := by decide +kernel
theorem d_T_cost_51 : decode c_T_cost 51 = .ok (.goto 9, 3) := by decide +kernel
theorem d_T_cost_54 : decode c_T_cost 54 = .ok (.aload_n 0, 1) := by decide +kernel
theorem d_T_cost_55 : decode c_T_cost 55 = .ok (.getfield 13, 3) := by decide +kernel
theorem d_T_cost_58 : decode c_T_cost 58 = .ok (.iload_n 2, 1) := by decide +kernel
theorem d_T_cost_59 : decode c_T_cost 59 = .ok (.iaload, 1) := by decide +kernel
theorem d_T_cost_60 : decode c_T_cost 60 = .ok (.ireturn, 1) := by decide +kernel
theorem d_T_steps_0 : decode c_T_steps 0 = .ok (.aload_n 0, 1) := by decide +kernel
theorem d_T_steps_1 : decode c_T_steps 1 = .ok (.iconst 0, 1) := by decide +kernel
theorem d_T_steps_2 : decode c_T_steps 2 = .ok (.putfield 89, 3) := by decide +kernel
theorem d_T_steps_5 : decode c_T_steps 5 = .ok (.aload_n 0, 1) := by decide +kernel
theorem d_T_steps_6 : decode c_T_steps 6 = .ok (.iload_n 1, 1) := by decide +kernel
theorem d_T_steps_7 : decode c_T_steps 7 = .ok (.invokevirtual 134, 3) := by decide +kernel
theorem d_T_steps_10 : decode c_T_steps 10 = .ok (.ifCond .ne 5, 3) := by decide +kernel
theorem d_T_steps_13 : decode c_T_steps 13 = .ok (.iconst (-1), 1) := by decide +kernel
theorem d_T_steps_14 : decode c_T_steps 14 = .ok (.ireturn, 1) := by decide +kernel
theorem d_T_steps_15 : decode c_T_steps 15 = .ok (.aload_n 0, 1) := by decide +kernel
theorem d_T_steps_16 : decode c_T_steps 16 = .ok (.iload_n 1, 1) := by decide +kernel
theorem d_T_steps_17 : decode c_T_steps 17 = .ok (.invokevirtual 157, 3) := by decide +kernel
theorem d_T_steps_20 : decode c_T_steps 20 = .ok (.istore_n 2, 1) := by decide +kernel
theorem d_T_steps_21 : decode c_T_steps 21 = .ok (.iload_n 2, 1) := by decide +kernel
theorem d_T_steps_22 : decode c_T_steps 22 = .ok (.iconst (-1), 1) := by decide +kernel
theorem d_T_steps_23 : decode c_T_steps 23 = .ok (.if_icmp .eq 27, 3) := by decide +kernel
theorem d_T_steps_26 : decode c_T_steps 26 = .ok (.aload_n 0, 1) := by decide +kernel
theorem d_T_steps_27 : decode c_T_steps 27 = .ok (.getfield 77, 3) := by decide +kernel
theorem d_T_steps_30 : decode c_T_steps 30 = .ok (.iload_n 2, 1) := by decide +kernel
theorem d_T_steps_31 : decode c_T_steps 31 = .ok (.iaload, 1) := by decide +kernel
theorem d_T_steps_32 : decode c_T_steps 32 = .ok (.aload_n 0, 1) := by decide +kernel
theorem d_T_steps_33 : decode c_T_steps 33 = .ok (.getfield 13, 3) := by decide +kernel
theorem d_T_steps_36 : decode c_T_steps 36 = .ok (.iload_n 2, 1) := by decide +kernel
theorem d_T_steps_37 : decode c_T_steps 37 = .ok (.iaload, 1) := by decide +kernel
theorem d_T_steps_38 : decode c_T_steps 38 = .ok (.if_icmp .ge 12, 3) := by decide +kernel
theorem d_T_steps_41 : decode c_T_steps 41 = .ok (.aload_n 0, 1) := by decide +kernel
theorem d_T_steps_42 : decode c_T_steps 42 = .ok (.getfield 80, 3) := by decide +kernel
theorem d_T_steps_45 : decode c_T_steps 45 = .ok (.iload_n 2, 1) := by decide +kernel
theorem d_T_steps_46 : decode c_T_steps 46 = .ok (.iaload, 1) := by decide +kernel
theorem d_T_steps_47 : decode c_T_steps 47 = .ok (.goto 4, 3) := by decide +kernel
theorem d_T_steps_50 : decode c_T_steps 50 = .ok (.iconst 0, 1) := by decide +kernel
theorem d_T_steps_51 : decode c_T_steps 51 = .ok (.ireturn, 1) := by decide +kernel
theorem d_T_update_0 : decode c_T_update 0 = .ok (.aload_n 0, 1) := by decide +kernel
theorem d_T_update_1 : decode c_T_update 1 = .ok (.iconst 0, 1) := by decide +kernel
theorem d_T_update_2 : decode c_T_update 2 = .ok (.putfield 89, 3) := by decide +kernel
theorem d_T_update_5 : decode c_T_update 5 = .ok (.aload_n 0, 1) := by decide +kernel
theorem d_T_update_6 : decode c_T_update 6 = .ok (.iload_n 1, 1) := by decide +kernel
theorem d_T_update_7 : decode c_T_update 7 = .ok (.invokevirtual 134, 3) := by decide +kernel
theorem d_T_update_10 : decode c_T_update 10 = .ok (.ifCond .eq 12, 3) := by decide +kernel
theorem d_T_update_13 : decode c_T_update 13 = .ok (.aload_n 0, 1) := by decide +kernel
theorem d_T_update_14 : decode c_T_update 14 = .ok (.iload_n 1, 1) := by decide +kernel
theorem d_T_update_15 : decode c_T_update 15 = .ok (.invokevirtual 147, 3) := by decide +kernel
theorem d_T_update_18 : decode c_T_update 18 = .ok (.iconst (-1), 1) := by decide +kernel
theorem d_T_update_19 : decode c_T_update 19 = .ok (.if_icmp .ne 5, 3) := by decide +kernel
theorem d_T_update_22 : decode c_T_update 22 = .ok (.iconst (-1), 1) := by decide +kernel
theorem d_T_update_23 : decode c_T_update 23 = .ok (.ireturn, 1) := by decide +kernel
theorem d_T_update_24 : decode c_T_update 24 = .ok (.aload_n 0, 1) := by decide +kernel
theorem d_T_update_25 : decode c_T_update 25 = .ok (.getfield 62, 3) := by decide +kernel
theorem d_T_update_28 : decode c_T_update 28 = .ok (.iload_n 1, 1) := by decide +kernel
theorem d_T_update_29 : decode c_T_update 29 = .ok (.aload_n 0, 1) := by decide +kernel
theorem d_T_update_30 : decode c_T_update 30 = .ok (.iload_n 1, 1) := by decide +kernel
theorem d_T_update_31 : decode c_T_update 31 = .ok (.invokevirtual 147, 3) := by decide +kernel
theorem d_T_update_34 : decode c_T_update 34 = .ok (.iastore, 1) := by decide +kernel
theorem d_T_update_35 : decode c_T_update 35 = .ok (.aload_n 0, 1) := by decide +kernel
theorem d_T_update_36 : decode c_T_update 36 = .ok (.getfield 62, 3) := by decide +kernel
theorem d_T_update_39 : decode c_T_update 39 = .ok (.iload_n 1, 1) := by decide +kernel
theorem d_T_update_40 : decode c_T_update 40 = .ok (.iaload, 1) := by decide +kernel
theorem d_T_update_41 : decode c_T_update 41 = .ok (.ireturn, 1) := by decide +kernel
theorem d_T_has_0 : decode c_T_has 0 = .ok (.aload_n 0, 1) := by decide +kernel
theorem d_T_has_1 : decode c_T_has 1 = .ok (.iconst 0, 1) := by decide +kernel
theorem d_T_has_2 : decode c_T_has 2 = .ok (.putfield 89, 3) := by decide +kernel
theorem d_T_has_5 : decode c_T_has 5 = .ok (.aload_n 0, 1) := by decide +kernel
theorem d_T_has_6 : decode c_T_has 6 = .ok (.iload_n 1, 1) := by decide +kernel
theorem d_T_has_7 : decode c_T_has 7 = .ok (.invokevirtual 134, 3) := by decide +kernel
theorem d_T_has_10 : decode c_T_has 10 = .ok (.ifCond .eq 12, 3) := by decide +kernel
theorem d_T_has_13 : decode c_T_has 13 = .ok (.aload_n 0, 1) := by decide +kernel
theorem d_T_has_14 : decode c_T_has 14 = .ok (.getfield 62, 3) := by decide +kernel
theorem d_T_has_17 : decode c_T_has 17 = .ok (.iload_n 1, 1) := by decide +kernel
theorem d_T_has_18 : decode c_T_has 18 = .ok (.iaload, 1) := by decide +kernel
theorem d_T_has_19 : decode c_T_has 19 = .ok (.goto 4, 3) := by decide +kernel
theorem d_T_has_22 : decode c_T_has 22 = .ok (.iconst (-1), 1) := by decide +kernel
theorem d_T_has_23 : decode c_T_has 23 = .ok (.ireturn, 1) := by decide +kernel
theorem d_D_init_0 : decode c_D_init 0 = .ok (.aload_n 0, 1) := by decide +kernel
theorem d_D_init_1 : decode c_D_init 1 = .ok (.invokespecial 3, 3) := by decide +kernel
theorem d_D_init_4 : decode c_D_init 4 = .ok (.aload_n 0, 1) := by decide +kernel
theorem d_D_init_5 : decode c_D_init 5 = .ok (.bipush 40, 2) := by decide +kernel
theorem d_D_init_7 : decode c_D_init 7 = .ok (.newarray .int, 2) := by decide +kernel
theorem d_D_init_9 : decode c_D_init 9 = .ok (.putfield 9, 3) := by decide +kernel
theorem d_D_init_12 : decode c_D_init 12 = .ok (.aload_n 0, 1) := by decide +kernel
theorem d_D_init_13 : decode c_D_init 13 = .ok (.bipush 40, 2) := by decide +kernel
theorem d_D_init_15 : decode c_D_init 15 = .ok (.newarray .int, 2) := by decide +kernel
theorem d_D_init_17 : decode c_D_init 17 = .ok (.putfield 15, 3) := by decide +kernel
theorem d_D_init_20 : decode c_D_init 20 = .ok (.aload_n 0, 1) := by decide +kernel
theorem d_D_init_21 : decode c_D_init 21 = .ok (.bipush 40, 2) := by decide +kernel
theorem d_D_init_23 : decode c_D_init 23 = .ok (.newarray .int, 2) := by decide +kernel
theorem d_D_init_25 : decode c_D_init 25 = .ok (.putfield 18, 3) := by decide +kernel
theorem d_D_init_28 : decode c_D_init 28 = .ok (.aload_n 0, 1) := by decide +kernel
theorem d_D_init_29 : decode c_D_init 29 = .ok (.bipush 16, 2) := by decide +kernel
theorem d_D_init_31 : decode c_D_init 31 = .ok (.newarray .int, 2) := by decide +kernel
theorem d_D_init_33 : decode c_D_init 33 = .ok (.putfield 21, 3) := by decide +kernel
theorem d_D_init_36 : decode c_D_init 36 = .ok (.aload_n 0, 1) := by decide +kernel
theorem d_D_init_37 : decode c_D_init 37 = .ok (.bipush 16, 2) := by decide +kernel
theorem d_D_init_39 : decode c_D_init 39 = .ok (.newarray .int, 2) := by decide +kernel
theorem d_D_init_41 : decode c_D_init 41 = .ok (.putfield 24, 3) := by decide +kernel
theorem d_D_init_44 : decode c_D_init 44 = .ok (.return_, 1) := by decide +kernel
theorem d_D_put_0 : decode c_D_put 0 = .ok (.aload_n 0, 1) := by decide +kernel
theorem d_D_put_1 : decode c_D_put 1 = .ok (.iload_n 1, 1) := by decide +kernel
theorem d_D_put_2 : decode c_D_put 2 = .ok (.iload_n 2, 1) := by decide +kernel
theorem d_D_put_3 : decode c_D_put 3 = .ok (.invokevirtual 27, 3) := by decide +kernel
theorem d_D_put_6 : decode c_D_put 6 = .ok (.istore 4, 2) := by decide +kernel
theorem d_D_put_8 : decode c_D_put 8 = .ok (.iload 4, 2) := by decide +kernel
theorem d_D_put_10 : decode c_D_put 10 = .ok (.iconst 0, 1) := by decide +kernel
theorem d_D_put_11 : decode c_D_put 11 = .ok (.bipush 39, 2) := by decide +kernel
theorem d_D_put_13 : decode c_D_put 13 = .ok (.invokestatic 31, 3) := by decide +kernel
theorem d_D_put_16 : decode c_D_put 16 = .ok (.ifCond .ne 5, 3) := by decide +kernel
