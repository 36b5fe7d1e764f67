theorem dX10_ahead_31 : decode cX10_ahead 31 = .ok (.istore_n 2, 1) := by decide +kernel
theorem dX10_ahead_32 : decode cX10_ahead 32 = .ok (.iinc 3 1, 3) := by decide +kernel
theorem dX10_ahead_35 : decode cX10_ahead 35 = .ok (.goto (-31), 3) := by decide +kernel
theorem dX10_ahead_38 : decode cX10_ahead 38 = .ok (.iload_n 2, 1) := by decide +kernel
theorem dX10_ahead_39 : decode cX10_ahead 39 = .ok (.ireturn, 1) := by decide +kernel
theorem dX10_of_0 : decode cX10_of 0 = .ok (.aload_n 0, 1) := by decide +kernel
theorem dX10_of_1 : decode cX10_of 1 = .ok (.iload_n 1, 1) := by decide +kernel
theorem dX10_of_2 : decode cX10_of 2 = .ok (.invokevirtual 59, 3) := by decide +kernel
theorem dX10_of_5 : decode cX10_of 5 = .ok (.ifCond .ne 6, 3) := by decide +kernel
theorem dX10_of_8 : decode cX10_of 8 = .ok (.bipush (-2), 2) := by decide +kernel
theorem dX10_of_10 : decode cX10_of 10 = .ok (.ireturn, 1) := by decide +kernel
theorem dX10_of_11 : decode cX10_of 11 = .ok (.iload_n 2, 1) := by decide +kernel
theorem dX10_of_12 : decode cX10_of 12 = .ok (.ifCond .ne 12, 3) := by decide +kernel
theorem dX10_of_15 : decode cX10_of 15 = .ok (.aload_n 0, 1) := by decide +kernel
theorem dX10_of_16 : decode cX10_of 16 = .ok (.getfield 13, 3) := by decide +kernel
theorem dX10_of_19 : decode cX10_of 19 = .ok (.iload_n 1, 1) := by decide +kernel
theorem dX10_of_20 : decode cX10_of 20 = .ok (.iaload, 1) := by decide +kernel
theorem dX10_of_21 : decode cX10_of 21 = .ok (.goto 45, 3) := by decide +kernel
theorem dX10_of_24 : decode cX10_of 24 = .ok (.iload_n 2, 1) := by decide +kernel
theorem dX10_of_25 : decode cX10_of 25 = .ok (.iconst 1, 1) := by decide +kernel
theorem dX10_of_26 : decode cX10_of 26 = .ok (.if_icmp .ne 12, 3) := by decide +kernel
theorem dX10_of_29 : decode cX10_of 29 = .ok (.aload_n 0, 1) := by decide +kernel
theorem dX10_of_30 : decode cX10_of 30 = .ok (.getfield 16, 3) := by decide +kernel
theorem dX10_of_33 : decode cX10_of 33 = .ok (.iload_n 1, 1) := by decide +kernel
theorem dX10_of_34 : decode cX10_of 34 = .ok (.iaload, 1) := by decide +kernel
theorem dX10_of_35 : decode cX10_of 35 = .ok (.goto 31, 3) := by decide +kernel
theorem dX10_of_38 : decode cX10_of 38 = .ok (.iload_n 2, 1) := by decide +kernel
theorem dX10_of_39 : decode cX10_of 39 = .ok (.iconst 2, 1) := by decide +kernel
theorem dX10_of_40 : decode cX10_of 40 = .ok (.if_icmp .ne 11, 3) := by decide +kernel
theorem dX10_of_43 : decode cX10_of 43 = .ok (.aload_n 0, 1) := by decide +kernel
theorem dX10_of_44 : decode cX10_of 44 = .ok (.iload_n 1, 1) := by decide +kernel
theorem dX10_of_45 : decode cX10_of 45 = .ok (.invokevirtual 63, 3) := by decide +kernel
theorem dX10_of_48 : decode cX10_of 48 = .ok (.goto 18, 3) := by decide +kernel
theorem dX10_of_51 : decode cX10_of 51 = .ok (.iload_n 2, 1) := by decide +kernel
theorem dX10_of_52 : decode cX10_of 52 = .ok (.iconst 3, 1) := by decide +kernel
theorem dX10_of_53 : decode cX10_of 53 = .ok (.if_icmp .ne 11, 3) := by decide +kernel
theorem dX10_of_56 : decode cX10_of 56 = .ok (.aload_n 0, 1) := by decide +kernel
theorem dX10_of_57 : decode cX10_of 57 = .ok (.iload_n 1, 1) := by decide +kernel
theorem dX10_of_58 : decode cX10_of 58 = .ok (.invokevirtual 67, 3) := by decide +kernel
theorem dX10_of_61 : decode cX10_of 61 = .ok (.goto 5, 3) := by decide +kernel
theorem dX10_of_64 : decode cX10_of 64 = .ok (.bipush (-2), 2) := by decide +kernel
theorem dX10_of_66 : decode cX10_of 66 = .ok (.ireturn, 1) := by decide +kernel
theorem dX10_allBehind_0 : decode cX10_allBehind 0 = .ok (.iconst 0, 1) := by decide +kernel
theorem dX10_allBehind_1 : decode cX10_allBehind 1 = .ok (.istore_n 2, 1) := by decide +kernel
theorem dX10_allBehind_2 : decode cX10_allBehind 2 = .ok (.iconst 0, 1) := by decide +kernel
theorem dX10_allBehind_3 : decode cX10_allBehind 3 = .ok (.istore_n 3, 1) := by decide +kernel
theorem dX10_allBehind_4 : decode cX10_allBehind 4 = .ok (.iload_n 3, 1) := by decide +kernel
theorem dX10_allBehind_5 : decode cX10_allBehind 5 = .ok (.aload_n 0, 1) := by decide +kernel
theorem dX10_allBehind_6 : decode cX10_allBehind 6 = .ok (.getfield 48, 3) := by decide +kernel
theorem dX10_allBehind_9 : decode cX10_allBehind 9 = .ok (.if_icmp .ge 26, 3) := by decide +kernel
theorem dX10_allBehind_12 : decode cX10_allBehind 12 = .ok (.iload_n 1, 1) := by decide +kernel
theorem dX10_allBehind_13 : decode cX10_allBehind 13 = .ok (.iload_n 3, 1) := by decide +kernel
theorem dX10_allBehind_14 : decode cX10_allBehind 14 = .ok (.invokestatic 70, 3) := by decide +kernel
theorem dX10_allBehind_17 : decode cX10_allBehind 17 = .ok (.ifCond .eq 12, 3) := by decide +kernel
theorem dX10_allBehind_20 : decode cX10_allBehind 20 = .ok (.iload_n 2, 1) := by decide +kernel
theorem dX10_allBehind_21 : decode cX10_allBehind 21 = .ok (.aload_n 0, 1) := by decide +kernel
theorem dX10_allBehind_22 : decode cX10_allBehind 22 = .ok (.getfield 19, 3) := by decide +kernel
theorem dX10_allBehind_25 : decode cX10_allBehind 25 = .ok (.iload_n 3, 1) := by decide +kernel
theorem dX10_allBehind_26 : decode cX10_allBehind 26 = .ok (.iaload, 1) := by decide +kernel
theorem dX10_allBehind_27 : decode cX10_allBehind 27 = .ok (.ior, 1) := by decide +kernel
theorem dX10_allBehind_28 : decode cX10_allBehind 28 = .ok (.istore_n 2, 1) := by decide +kernel
theorem dX10_allBehind_29 : decode cX10_allBehind 29 = .ok (.iinc 3 1, 3) := by decide +kernel
theorem dX10_allBehind_32 : decode cX10_allBehind 32 = .ok (.goto (-28), 3) := by decide +kernel
theorem dX10_allBehind_35 : decode cX10_allBehind 35 = .ok (.iload_n 2, 1) := by decide +kernel
theorem dX10_allBehind_36 : decode cX10_allBehind 36 = .ok (.ireturn, 1) := by decide +kernel
theorem dX10_tick_0 : decode cX10_tick 0 = .ok (.iload_n 1, 1) := by decide +kernel
theorem dX10_tick_1 : decode cX10_tick 1 = .ok (.iconst 2, 1) := by decide +kernel
theorem dX10_tick_2 : decode cX10_tick 2 = .ok (.if_icmp .ne 16, 3) := by decide +kernel
theorem dX10_tick_5 : decode cX10_tick 5 = .ok (.iload_n 3, 1) := by decide +kernel
theorem dX10_tick_6 : decode cX10_tick 6 = .ok (.iconst 1, 1) := by decide +kernel
theorem dX10_tick_7 : decode cX10_tick 7 = .ok (.if_icmp .ne 11, 3) := by decide +kernel
theorem dX10_tick_10 : decode cX10_tick 10 = .ok (.iload_n 2, 1) := by decide +kernel
theorem dX10_tick_11 : decode cX10_tick 11 = .ok (.aload_n 0, 1) := by decide +kernel
theorem dX10_tick_12 : decode cX10_tick 12 = .ok (.iload_n 2, 1) := by decide +kernel
theorem dX10_tick_13 : decode cX10_tick 13 = .ok (.invokevirtual 74, 3) := by decide +kernel
theorem dX10_tick_16 : decode cX10_tick 16 = .ok (.ior, 1) := by decide +kernel
theorem dX10_tick_17 : decode cX10_tick 17 = .ok (.ireturn, 1) := by decide +kernel
theorem dX10_tick_18 : decode cX10_tick 18 = .ok (.iload_n 2, 1) := by decide +kernel
theorem dX10_tick_19 : decode cX10_tick 19 = .ok (.istore 4, 2) := by decide +kernel
theorem dX10_tick_21 : decode cX10_tick 21 = .ok (.iload_n 1, 1) := by decide +kernel
theorem dX10_tick_22 : decode cX10_tick 22 = .ok (.ifCond .eq 68, 3) := by decide +kernel
theorem dX10_tick_25 : decode cX10_tick 25 = .ok (.iconst 0, 1) := by decide +kernel
theorem dX10_tick_26 : decode cX10_tick 26 = .ok (.istore 5, 2) := by decide +kernel
theorem dX10_tick_28 : decode cX10_tick 28 = .ok (.iload 5, 2) := by decide +kernel
theorem dX10_tick_30 : decode cX10_tick 30 = .ok (.aload_n 0, 1) := by decide +kernel
theorem dX10_tick_31 : decode cX10_tick 31 = .ok (.getfield 48, 3) := by decide +kernel
theorem dX10_tick_34 : decode cX10_tick 34 = .ok (.if_icmp .ge 53, 3) := by decide +kernel
theorem dX10_tick_37 : decode cX10_tick 37 = .ok (.aload_n 0, 1) := by decide +kernel
theorem dX10_tick_38 : decode cX10_tick 38 = .ok (.getfield 19, 3) := by decide +kernel
theorem dX10_tick_41 : decode cX10_tick 41 = .ok (.iload 5, 2) := by decide +kernel
theorem dX10_tick_43 : decode cX10_tick 43 = .ok (.iaload, 1) := by decide +kernel
theorem dX10_tick_44 : decode cX10_tick 44 = .ok (.iload_n 2, 1) := by decide +kernel
theorem dX10_tick_45 : decode cX10_tick 45 = .ok (.iconst (-1), 1) := by decide +kernel
theorem dX10_tick_46 : decode cX10_tick 46 = .ok (.ixor, 1) := by decide +kernel
theorem dX10_tick_47 : decode cX10_tick 47 = .ok (.iand, 1) := by decide +kernel
theorem dX10_tick_48 : decode cX10_tick 48 = .ok (.istore 6, 2) := by decide +kernel
theorem dX10_tick_50 : decode cX10_tick 50 = .ok (.iload_n 2, 1) := by decide +kernel
theorem dX10_tick_51 : decode cX10_tick 51 = .ok (.iload 5, 2) := by decide +kernel
theorem dX10_tick_53 : decode cX10_tick 53 = .ok (.invokestatic 70, 3) := by decide +kernel
theorem dX10_tick_56 : decode cX10_tick 56 = .ok (.ifCond .eq 25, 3) := by decide +kernel
theorem dX10_tick_59 : decode cX10_tick 59 = .ok (.iload 6, 2) := by decide +kernel
theorem dX10_tick_61 : decode cX10_tick 61 = .ok (.ifCond .eq 20, 3) := by decide +kernel
theorem dX10_tick_64 : decode cX10_tick 64 = .ok (.iload 6, 2) := by decide +kernel
theorem dX10_tick_66 : decode cX10_tick 66 = .ok (.iload 6, 2) := by decide +kernel
theorem dX10_tick_68 : decode cX10_tick 68 = .ok (.iconst 1, 1) := by decide +kernel
theorem dX10_tick_69 : decode cX10_tick 69 = .ok (.isub, 1) := by decide +kernel
theorem dX10_tick_70 : decode cX10_tick 70 = .ok (.iand, 1) := by decide +kernel
theorem dX10_tick_71 : decode cX10_tick 71 = .ok (.ifCond .ne 10, 3) := by decide +kernel
theorem dX10_tick_74 : decode cX10_tick 74 = .ok (.iload 4, 2) := by decide +kernel
theorem dX10_tick_76 : decode cX10_tick 76 = .ok (.iload 6, 2) := by decide +kernel
theorem dX10_tick_78 : decode cX10_tick 78 = .ok (.ior, 1) := by decide +kernel
theorem dX10_tick_79 : decode cX10_tick 79 = .ok (.istore 4, 2) := by decide +kernel
theorem dX10_tick_81 : decode cX10_tick 81 = .ok (.iinc 5 1, 3) := by decide +kernel
theorem dX10_tick_84 : decode cX10_tick 84 = .ok (.goto (-56), 3) := by decide +kernel
theorem dX10_tick_87 : decode cX10_tick 87 = .ok (.iload 4, 2) := by decide +kernel
theorem dX10_tick_89 : decode cX10_tick 89 = .ok (.ireturn, 1) := by decide +kernel
theorem dX10_tick_90 : decode cX10_tick 90 = .ok (.iconst 0, 1) := by decide +kernel
theorem dX10_tick_91 : decode cX10_tick 91 = .ok (.istore 5, 2) := by decide +kernel
theorem dX10_tick_93 : decode cX10_tick 93 = .ok (.iload 5, 2) := by decide +kernel
theorem dX10_tick_95 : decode cX10_tick 95 = .ok (.aload_n 0, 1) := by decide +kernel
theorem dX10_tick_96 : decode cX10_tick 96 = .ok (.getfield 48, 3) := by decide +kernel
theorem dX10_tick_99 : decode cX10_tick 99 = .ok (.if_icmp .ge 94, 3) := by decide +kernel
theorem dX10_tick_102 : decode cX10_tick 102 = .ok (.iload_n 2, 1) := by decide +kernel
theorem dX10_tick_103 : decode cX10_tick 103 = .ok (.iload 5, 2) := by decide +kernel
theorem dX10_tick_105 : decode cX10_tick 105 = .ok (.invokestatic 70, 3) := by decide +kernel
theorem dX10_tick_108 : decode cX10_tick 108 = .ok (.ifCond .eq 6, 3) := by decide +kernel
theorem dX10_tick_111 : decode cX10_tick 111 = .ok (.goto 76, 3) := by decide +kernel
theorem dX10_tick_114 : decode cX10_tick 114 = .ok (.iconst 0, 1) := by decide +kernel
theorem dX10_tick_115 : decode cX10_tick 115 = .ok (.istore 6, 2) := by decide +kernel
theorem dX10_tick_117 : decode cX10_tick 117 = .ok (.iconst 0, 1) := by decide +kernel
theorem dX10_tick_118 : decode cX10_tick 118 = .ok (.istore 7, 2) := by decide +kernel
theorem dX10_tick_120 : decode cX10_tick 120 = .ok (.iload 7, 2) := by decide +kernel
theorem dX10_tick_122 : decode cX10_tick 122 = .ok (.aload_n 0, 1) := by decide +kernel
theorem dX10_tick_123 : decode cX10_tick 123 = .ok (.getfield 48, 3) := by decide +kernel
theorem dX10_tick_126 : decode cX10_tick 126 = .ok (.if_icmp .ge 40, 3) := by decide +kernel
theorem dX10_tick_129 : decode cX10_tick 129 = .ok (.iload 6, 2) := by decide +kernel
theorem dX10_tick_131 : decode cX10_tick 131 = .ok (.iload_n 2, 1) := by decide +kernel
theorem dX10_tick_132 : decode cX10_tick 132 = .ok (.iload 7, 2) := by decide +kernel
theorem dX10_tick_134 : decode cX10_tick 134 = .ok (.invokestatic 70, 3) := by decide +kernel
theorem dX10_tick_137 : decode cX10_tick 137 = .ok (.ifCond .eq 19, 3) := by decide +kernel
theorem dX10_tick_140 : decode cX10_tick 140 = .ok (.aload_n 0, 1) := by decide +kernel
theorem dX10_tick_141 : decode cX10_tick 141 = .ok (.getfield 7, 3) := by decide +kernel
theorem dX10_tick_144 : decode cX10_tick 144 = .ok (.bipush 12, 2) := by decide +kernel
theorem dX10_tick_146 : decode cX10_tick 146 = .ok (.iload 7, 2) := by decide +kernel
theorem dX10_tick_148 : decode cX10_tick 148 = .ok (.imul, 1) := by decide +kernel
theorem dX10_tick_149 : decode cX10_tick 149 = .ok (.iload 5, 2) := by decide +kernel
theorem dX10_tick_151 : decode cX10_tick 151 = .ok (.iadd, 1) := by decide +kernel
theorem dX10_tick_152 : decode cX10_tick 152 = .ok (.iaload, 1) := by decide +kernel
theorem dX10_tick_153 : decode cX10_tick 153 = .ok (.goto 4, 3) := by decide +kernel
theorem dX10_tick_156 : decode cX10_tick 156 = .ok (.iconst 0, 1) := by decide +kernel
theorem dX10_tick_157 : decode cX10_tick 157 = .ok (.iadd, 1) := by decide +kernel
theorem dX10_tick_158 : decode cX10_tick 158 = .ok (.istore 6, 2) := by decide +kernel
theorem dX10_tick_160 : decode cX10_tick 160 = .ok (.iinc 7 1, 3) := by decide +kernel
theorem dX10_tick_163 : decode cX10_tick 163 = .ok (.goto (-43), 3) := by decide +kernel
theorem dX10_tick_166 : decode cX10_tick 166 = .ok (.iload 6, 2) := by decide +kernel
theorem dX10_tick_168 : decode cX10_tick 168 = .ok (.aload_n 0, 1) := by decide +kernel
theorem dX10_tick_169 : decode cX10_tick 169 = .ok (.getfield 13, 3) := by decide +kernel
theorem dX10_tick_172 : decode cX10_tick 172 = .ok (.iload 5, 2) := by decide +kernel
theorem dX10_tick_174 : decode cX10_tick 174 = .ok (.iaload, 1) := by decide +kernel
theorem dX10_tick_175 : decode cX10_tick 175 = .ok (.if_icmp .lt 12, 3) := by decide +kernel
theorem dX10_tick_178 : decode cX10_tick 178 = .ok (.iload 4, 2) := by decide +kernel
theorem dX10_tick_180 : decode cX10_tick 180 = .ok (.iconst 1, 1) := by decide +kernel
theorem dX10_tick_181 : decode cX10_tick 181 = .ok (.iload 5, 2) := by decide +kernel
theorem dX10_tick_183 : decode cX10_tick 183 = .ok (.ishl, 1) := by decide +kernel
theorem dX10_tick_184 : decode cX10_tick 184 = .ok (.ior, 1) := by decide +kernel
theorem dX10_tick_185 : decode cX10_tick 185 = .ok (.istore 4, 2) := by decide +kernel
theorem dX10_tick_187 : decode cX10_tick 187 = .ok (.iinc 5 1, 3) := by decide +kernel
theorem dX10_tick_190 : decode cX10_tick 190 = .ok (.goto (-97), 3) := by decide +kernel
theorem dX10_tick_193 : decode cX10_tick 193 = .ok (.iload 4, 2) := by decide +kernel
theorem dX10_tick_195 : decode cX10_tick 195 = .ok (.ireturn, 1) := by decide +kernel
theorem dX10_runs_0 : decode cX10_runs 0 = .ok (.aload_n 0, 1) := by decide +kernel
theorem dX10_runs_1 : decode cX10_runs 1 = .ok (.getfield 22, 3) := by decide +kernel
theorem dX10_runs_4 : decode cX10_runs 4 = .ok (.iconst 0, 1) := by decide +kernel
theorem dX10_runs_5 : decode cX10_runs 5 = .ok (.iload_n 2, 1) := by decide +kernel
theorem dX10_runs_6 : decode cX10_runs 6 = .ok (.iastore, 1) := by decide +kernel
theorem dX10_runs_7 : decode cX10_runs 7 = .ok (.aload_n 0, 1) := by decide +kernel
theorem dX10_runs_8 : decode cX10_runs 8 = .ok (.iconst 0, 1) := by decide +kernel
theorem dX10_runs_9 : decode cX10_runs 9 = .ok (.putfield 77, 3) := by decide +kernel
theorem dX10_runs_12 : decode cX10_runs 12 = .ok (.iconst 0, 1) := by decide +kernel
theorem dX10_runs_13 : decode cX10_runs 13 = .ok (.istore_n 3, 1) := by decide +kernel
theorem dX10_runs_14 : decode cX10_runs 14 = .ok (.iconst 1, 1) := by decide +kernel
theorem dX10_runs_15 : decode cX10_runs 15 = .ok (.istore 4, 2) := by decide +kernel
theorem dX10_runs_17 : decode cX10_runs 17 = .ok (.iload 4, 2) := by decide +kernel
theorem dX10_runs_19 : decode cX10_runs 19 = .ok (.ifCond .eq 85, 3) := by decide +kernel
theorem dX10_runs_22 : decode cX10_runs 22 = .ok (.iinc 3 1, 3) := by decide +kernel
theorem dX10_runs_25 : decode cX10_runs 25 = .ok (.aload_n 0, 1) := by decide +kernel
theorem dX10_runs_26 : decode cX10_runs 26 = .ok (.getfield 22, 3) := by decide +kernel
theorem dX10_runs_29 : decode cX10_runs 29 = .ok (.iload_n 3, 1) := by decide +kernel
theorem dX10_runs_30 : decode cX10_runs 30 = .ok (.aload_n 0, 1) := by decide +kernel
theorem dX10_runs_31 : decode cX10_runs 31 = .ok (.iload_n 1, 1) := by decide +kernel
theorem dX10_runs_32 : decode cX10_runs 32 = .ok (.aload_n 0, 1) := by decide +kernel
theorem dX10_runs_33 : decode cX10_runs 33 = .ok (.getfield 22, 3) := by decide +kernel
theorem dX10_runs_36 : decode cX10_runs 36 = .ok (.iload_n 3, 1) := by decide +kernel
theorem dX10_runs_37 : decode cX10_runs 37 = .ok (.iconst 1, 1) := by decide +kernel
theorem dX10_runs_38 : decode cX10_runs 38 = .ok (.isub, 1) := by decide +kernel
theorem dX10_runs_39 : decode cX10_runs 39 = .ok (.iaload, 1) := by decide +kernel
theorem dX10_runs_40 : decode cX10_runs 40 = .ok (.iload_n 3, 1) := by decide +kernel
theorem dX10_runs_41 : decode cX10_runs 41 = .ok (.invokevirtual 80, 3) := by decide +kernel
theorem dX10_runs_44 : decode cX10_runs 44 = .ok (.iastore, 1) := by decide +kernel
theorem dX10_runs_45 : decode cX10_runs 45 = .ok (.aload_n 0, 1) := by decide +kernel
theorem dX10_runs_46 : decode cX10_runs 46 = .ok (.getfield 22, 3) := by decide +kernel
theorem dX10_runs_49 : decode cX10_runs 49 = .ok (.iload_n 3, 1) := by decide +kernel
theorem dX10_runs_50 : decode cX10_runs 50 = .ok (.iaload, 1) := by decide +kernel
theorem dX10_runs_51 : decode cX10_runs 51 = .ok (.aload_n 0, 1) := by decide +kernel
theorem dX10_runs_52 : decode cX10_runs 52 = .ok (.getfield 22, 3) := by decide +kernel
theorem dX10_runs_55 : decode cX10_runs 55 = .ok (.iload_n 3, 1) := by decide +kernel
theorem dX10_runs_56 : decode cX10_runs 56 = .ok (.iconst 1, 1) := by decide +kernel
theorem dX10_runs_57 : decode cX10_runs 57 = .ok (.isub, 1) := by decide +kernel
theorem dX10_runs_58 : decode cX10_runs 58 = .ok (.iaload, 1) := by decide +kernel
theorem dX10_runs_59 : decode cX10_runs 59 = .ok (.if_icmp .eq 7, 3) := by decide +kernel
theorem dX10_runs_62 : decode cX10_runs 62 = .ok (.iconst 1, 1) := by decide +kernel
theorem dX10_runs_63 : decode cX10_runs 63 = .ok (.goto 4, 3) := by decide +kernel
theorem dX10_runs_66 : decode cX10_runs 66 = .ok (.iconst 0, 1) := by decide +kernel
theorem dX10_runs_67 : decode cX10_runs 67 = .ok (.istore 5, 2) := by decide +kernel
theorem dX10_runs_69 : decode cX10_runs 69 = .ok (.iload 5, 2) := by decide +kernel
theorem dX10_runs_71 : decode cX10_runs 71 = .ok (.ifCond .eq 8, 3) := by decide +kernel
theorem dX10_runs_74 : decode cX10_runs 74 = .ok (.aload_n 0, 1) := by decide +kernel
theorem dX10_runs_75 : decode cX10_runs 75 = .ok (.iload_n 3, 1) := by decide +kernel
theorem dX10_runs_76 : decode cX10_runs 76 = .ok (.putfield 77, 3) := by decide +kernel
theorem dX10_runs_79 : decode cX10_runs 79 = .ok (.iload 5, 2) := by decide +kernel
theorem dX10_runs_81 : decode cX10_runs 81 = .ok (.ifCond .ne 13, 3) := by decide +kernel
theorem dX10_runs_84 : decode cX10_runs 84 = .ok (.iload_n 1, 1) := by decide +kernel
theorem dX10_runs_85 : decode cX10_runs 85 = .ok (.iconst 2, 1) := by decide +kernel
theorem dX10_runs_86 : decode cX10_runs 86 = .ok (.if_icmp .ne 12, 3) := by decide +kernel
theorem dX10_runs_89 : decode cX10_runs 89 = .ok (.iload_n 3, 1) := by decide +kernel
theorem dX10_runs_90 : decode cX10_runs 90 = .ok (.iconst 1, 1) := by decide +kernel
theorem dX10_runs_91 : decode cX10_runs 91 = .ok (.if_icmp .ne 7, 3) := by decide +kernel
theorem dX10_runs_94 : decode cX10_runs 94 = .ok (.iconst 1, 1) := by decide +kernel
theorem dX10_runs_95 : decode cX10_runs 95 = .ok (.goto 4, 3) := by decide +kernel
theorem dX10_runs_98 : decode cX10_runs 98 = .ok (.iconst 0, 1) := by decide +kernel
theorem dX10_runs_99 : decode cX10_runs 99 = .ok (.istore 4, 2) := by decide +kernel
theorem dX10_runs_101 : decode cX10_runs 101 = .ok (.goto (-84), 3) := by decide +kernel
theorem dX10_runs_104 : decode cX10_runs 104 = .ok (.aload_n 0, 1) := by decide +kernel
theorem dX10_runs_105 : decode cX10_runs 105 = .ok (.getfield 22, 3) := by decide +kernel
theorem dX10_runs_108 : decode cX10_runs 108 = .ok (.iload_n 3, 1) := by decide +kernel
theorem dX10_runs_109 : decode cX10_runs 109 = .ok (.iaload, 1) := by decide +kernel
theorem dX10_runs_110 : decode cX10_runs 110 = .ok (.ireturn, 1) := by decide +kernel
theorem dX10_endOf_0 : decode cX10_endOf 0 = .ok (.aload_n 0, 1) := by decide +kernel
theorem dX10_endOf_1 : decode cX10_endOf 1 = .ok (.iconst 0, 1) := by decide +kernel
theorem dX10_endOf_2 : decode cX10_endOf 2 = .ok (.iload_n 1, 1) := by decide +kernel
theorem dX10_endOf_3 : decode cX10_endOf 3 = .ok (.iadd, 1) := by decide +kernel
theorem dX10_endOf_4 : decode cX10_endOf 4 = .ok (.invokevirtual 84, 3) := by decide +kernel
theorem dX10_endOf_7 : decode cX10_endOf 7 = .ok (.ifCond .ne 37, 3) := by decide +kernel
theorem dX10_endOf_10 : decode cX10_endOf 10 = .ok (.iconst 0, 1) := by decide +kernel
theorem dX10_endOf_11 : decode cX10_endOf 11 = .ok (.istore_n 3, 1) := by decide +kernel
theorem dX10_endOf_12 : decode cX10_endOf 12 = .ok (.iload_n 3, 1) := by decide +kernel
theorem dX10_endOf_13 : decode cX10_endOf 13 = .ok (.aload_n 0, 1) := by decide +kernel
theorem dX10_endOf_14 : decode cX10_endOf 14 = .ok (.invokevirtual 87, 3) := by decide +kernel
theorem dX10_endOf_17 : decode cX10_endOf 17 = .ok (.if_icmp .gt 27, 3) := by decide +kernel
theorem dX10_endOf_20 : decode cX10_endOf 20 = .ok (.aload_n 0, 1) := by decide +kernel
theorem dX10_endOf_21 : decode cX10_endOf 21 = .ok (.getfield 25, 3) := by decide +kernel
theorem dX10_endOf_24 : decode cX10_endOf 24 = .ok (.sipush 4096, 3) := by decide +kernel
theorem dX10_endOf_27 : decode cX10_endOf 27 = .ok (.iload_n 1, 1) := by decide +kernel
theorem dX10_endOf_28 : decode cX10_endOf 28 = .ok (.imul, 1) := by decide +kernel
theorem dX10_endOf_29 : decode cX10_endOf 29 = .ok (.iload_n 3, 1) := by decide +kernel
theorem dX10_endOf_30 : decode cX10_endOf 30 = .ok (.iadd, 1) := by decide +kernel
theorem dX10_endOf_31 : decode cX10_endOf 31 = .ok (.aload_n 0, 1) := by decide +kernel
theorem dX10_endOf_32 : decode cX10_endOf 32 = .ok (.iload_n 1, 1) := by decide +kernel
theorem dX10_endOf_33 : decode cX10_endOf 33 = .ok (.iload_n 3, 1) := by decide +kernel
theorem dX10_endOf_34 : decode cX10_endOf 34 = .ok (.invokevirtual 91, 3) := by decide +kernel
theorem dX10_endOf_37 : decode cX10_endOf 37 = .ok (.iastore, 1) := by decide +kernel
theorem dX10_endOf_38 : decode cX10_endOf 38 = .ok (.iinc 3 1, 3) := by decide +kernel
theorem dX10_endOf_41 : decode cX10_endOf 41 = .ok (.goto (-29), 3) := by decide +kernel
theorem dX10_endOf_44 : decode cX10_endOf 44 = .ok (.aload_n 0, 1) := by decide +kernel
theorem dX10_endOf_45 : decode cX10_endOf 45 = .ok (.getfield 25, 3) := by decide +kernel
theorem dX10_endOf_48 : decode cX10_endOf 48 = .ok (.sipush 4096, 3) := by decide +kernel
theorem dX10_endOf_51 : decode cX10_endOf 51 = .ok (.iload_n 1, 1) := by decide +kernel
theorem dX10_endOf_52 : decode cX10_endOf 52 = .ok (.imul, 1) := by decide +kernel
theorem dX10_endOf_53 : decode cX10_endOf 53 = .ok (.iload_n 2, 1) := by decide +kernel
theorem dX10_endOf_54 : decode cX10_endOf 54 = .ok (.iadd, 1) := by decide +kernel
theorem dX10_endOf_55 : decode cX10_endOf 55 = .ok (.iaload, 1) := by decide +kernel
theorem dX10_endOf_56 : decode cX10_endOf 56 = .ok (.ireturn, 1) := by decide +kernel
theorem dX10_isRule_0 : decode cX10_isRule 0 = .ok (.iload_n 0, 1) := by decide +kernel
theorem dX10_isRule_1 : decode cX10_isRule 1 = .ok (.iconst 0, 1) := by decide +kernel
theorem dX10_isRule_2 : decode cX10_isRule 2 = .ok (.iconst 2, 1) := by decide +kernel
theorem dX10_isRule_3 : decode cX10_isRule 3 = .ok (.invokestatic 52, 3) := by decide +kernel
theorem dX10_isRule_6 : decode cX10_isRule 6 = .ok (.ireturn, 1) := by decide +kernel
theorem dX10_go_0 : decode cX10_go 0 = .ok (.iload_n 1, 1) := by decide +kernel
theorem dX10_go_1 : decode cX10_go 1 = .ok (.invokestatic 95, 3) := by decide +kernel
theorem dX10_go_4 : decode cX10_go 4 = .ok (.ifCond .eq 20, 3) := by decide +kernel
theorem dX10_go_7 : decode cX10_go 7 = .ok (.aload_n 0, 1) := by decide +kernel
theorem dX10_go_8 : decode cX10_go 8 = .ok (.iload_n 2, 1) := by decide +kernel
theorem dX10_go_9 : decode cX10_go 9 = .ok (.invokevirtual 98, 3) := by decide +kernel
theorem dX10_go_12 : decode cX10_go 12 = .ok (.ifCond .eq 12, 3) := by decide +kernel
theorem dX10_go_15 : decode cX10_go 15 = .ok (.aload_n 0, 1) := by decide +kernel
theorem dX10_go_16 : decode cX10_go 16 = .ok (.iload_n 1, 1) := by decide +kernel
theorem dX10_go_17 : decode cX10_go 17 = .ok (.iload_n 2, 1) := by decide +kernel
theorem dX10_go_18 : decode cX10_go 18 = .ok (.invokevirtual 91, 3) := by decide +kernel
theorem dX10_go_21 : decode cX10_go 21 = .ok (.goto 5, 3) := by decide +kernel
theorem dX10_go_24 : decode cX10_go 24 = .ok (.bipush (-2), 2) := by decide +kernel
theorem dX10_go_26 : decode cX10_go 26 = .ok (.ireturn, 1) := by decide +kernel
theorem dX10_ticks_0 : decode cX10_ticks 0 = .ok (.iload_n 1, 1) := by decide +kernel
theorem dX10_ticks_1 : decode cX10_ticks 1 = .ok (.invokestatic 95, 3) := by decide +kernel
theorem dX10_ticks_4 : decode cX10_ticks 4 = .ok (.ifCond .eq 11, 3) := by decide +kernel
theorem dX10_ticks_7 : decode cX10_ticks 7 = .ok (.aload_n 0, 1) := by decide +kernel
theorem dX10_ticks_8 : decode cX10_ticks 8 = .ok (.iload_n 2, 1) := by decide +kernel
theorem dX10_ticks_9 : decode cX10_ticks 9 = .ok (.invokevirtual 98, 3) := by decide +kernel
theorem dX10_ticks_12 : decode cX10_ticks 12 = .ok (.ifCond .ne 6, 3) := by decide +kernel
theorem dX10_ticks_15 : decode cX10_ticks 15 = .ok (.bipush (-2), 2) := by decide +kernel
theorem dX10_ticks_17 : decode cX10_ticks 17 = .ok (.ireturn, 1) := by decide +kernel
theorem dX10_ticks_18 : decode cX10_ticks 18 = .ok (.aload_n 0, 1) := by decide +kernel
theorem dX10_ticks_19 : decode cX10_ticks 19 = .ok (.iload_n 1, 1) := by decide +kernel
theorem dX10_ticks_20 : decode cX10_ticks 20 = .ok (.iload_n 2, 1) := by decide +kernel
theorem dX10_ticks_21 : decode cX10_ticks 21 = .ok (.invokevirtual 91, 3) := by decide +kernel
theorem dX10_ticks_24 : decode cX10_ticks 24 = .ok (.istore_n 3, 1) := by decide +kernel
theorem dX10_ticks_25 : decode cX10_ticks 25 = .ok (.aload_n 0, 1) := by decide +kernel
theorem dX10_ticks_26 : decode cX10_ticks 26 = .ok (.getfield 77, 3) := by decide +kernel
theorem dX10_ticks_29 : decode cX10_ticks 29 = .ok (.ireturn, 1) := by decide +kernel
theorem dX10_comes_0 : decode cX10_comes 0 = .ok (.iconst 0, 1) := by decide +kernel
theorem dX10_comes_1 : decode cX10_comes 1 = .ok (.istore_n 2, 1) := by decide +kernel
theorem dX10_comes_2 : decode cX10_comes 2 = .ok (.iload_n 2, 1) := by decide +kernel
theorem dX10_comes_3 : decode cX10_comes 3 = .ok (.aload_n 0, 1) := by decide +kernel
theorem dX10_comes_4 : decode cX10_comes 4 = .ok (.getfield 77, 3) := by decide +kernel
theorem dX10_comes_7 : decode cX10_comes 7 = .ok (.if_icmp .gt 24, 3) := by decide +kernel
theorem dX10_comes_10 : decode cX10_comes 10 = .ok (.aload_n 0, 1) := by decide +kernel
theorem dX10_comes_11 : decode cX10_comes 11 = .ok (.getfield 22, 3) := by decide +kernel
theorem dX10_comes_14 : decode cX10_comes 14 = .ok (.iload_n 2, 1) := by decide +kernel
theorem dX10_comes_15 : decode cX10_comes 15 = .ok (.iaload, 1) := by decide +kernel
theorem dX10_comes_16 : decode cX10_comes 16 = .ok (.iload_n 1, 1) := by decide +kernel
theorem dX10_comes_17 : decode cX10_comes 17 = .ok (.invokestatic 70, 3) := by decide +kernel
