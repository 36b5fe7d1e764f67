theorem dX10_comes_20 : decode cX10_comes 20 = .ok (.ifCond .eq 5, 3) := by decide +kernel
theorem dX10_comes_23 : decode cX10_comes 23 = .ok (.iload_n 2, 1) := by decide +kernel
theorem dX10_comes_24 : decode cX10_comes 24 = .ok (.ireturn, 1) := by decide +kernel
theorem dX10_comes_25 : decode cX10_comes 25 = .ok (.iinc 2 1, 3) := by decide +kernel
theorem dX10_comes_28 : decode cX10_comes 28 = .ok (.goto (-26), 3) := by decide +kernel
theorem dX10_comes_31 : decode cX10_comes 31 = .ok (.iconst (-1), 1) := by decide +kernel
theorem dX10_comes_32 : decode cX10_comes 32 = .ok (.ireturn, 1) := by decide +kernel
theorem dX10_when_0 : decode cX10_when 0 = .ok (.iload_n 1, 1) := by decide +kernel
theorem dX10_when_1 : decode cX10_when 1 = .ok (.invokestatic 95, 3) := by decide +kernel
theorem dX10_when_4 : decode cX10_when 4 = .ok (.ifCond .eq 19, 3) := by decide +kernel
theorem dX10_when_7 : decode cX10_when 7 = .ok (.aload_n 0, 1) := by decide +kernel
theorem dX10_when_8 : decode cX10_when 8 = .ok (.iload_n 2, 1) := by decide +kernel
theorem dX10_when_9 : decode cX10_when 9 = .ok (.invokevirtual 98, 3) := by decide +kernel
theorem dX10_when_12 : decode cX10_when 12 = .ok (.ifCond .eq 11, 3) := by decide +kernel
theorem dX10_when_15 : decode cX10_when 15 = .ok (.aload_n 0, 1) := by decide +kernel
theorem dX10_when_16 : decode cX10_when 16 = .ok (.iload_n 3, 1) := by decide +kernel
theorem dX10_when_17 : decode cX10_when 17 = .ok (.invokevirtual 59, 3) := by decide +kernel
theorem dX10_when_20 : decode cX10_when 20 = .ok (.ifCond .ne 6, 3) := by decide +kernel
theorem dX10_when_23 : decode cX10_when 23 = .ok (.bipush (-2), 2) := by decide +kernel
theorem dX10_when_25 : decode cX10_when 25 = .ok (.ireturn, 1) := by decide +kernel
theorem dX10_when_26 : decode cX10_when 26 = .ok (.aload_n 0, 1) := by decide +kernel
theorem dX10_when_27 : decode cX10_when 27 = .ok (.iload_n 1, 1) := by decide +kernel
theorem dX10_when_28 : decode cX10_when 28 = .ok (.iload_n 2, 1) := by decide +kernel
theorem dX10_when_29 : decode cX10_when 29 = .ok (.invokevirtual 91, 3) := by decide +kernel
theorem dX10_when_32 : decode cX10_when 32 = .ok (.istore 4, 2) := by decide +kernel
theorem dX10_when_34 : decode cX10_when 34 = .ok (.aload_n 0, 1) := by decide +kernel
theorem dX10_when_35 : decode cX10_when 35 = .ok (.iload_n 3, 1) := by decide +kernel
theorem dX10_when_36 : decode cX10_when 36 = .ok (.invokevirtual 101, 3) := by decide +kernel
theorem dX10_when_39 : decode cX10_when 39 = .ok (.ireturn, 1) := by decide +kernel
theorem dX10_brought_0 : decode cX10_brought 0 = .ok (.iload_n 1, 1) := by decide +kernel
theorem dX10_brought_1 : decode cX10_brought 1 = .ok (.invokestatic 95, 3) := by decide +kernel
theorem dX10_brought_4 : decode cX10_brought 4 = .ok (.ifCond .eq 19, 3) := by decide +kernel
theorem dX10_brought_7 : decode cX10_brought 7 = .ok (.aload_n 0, 1) := by decide +kernel
theorem dX10_brought_8 : decode cX10_brought 8 = .ok (.iload_n 2, 1) := by decide +kernel
theorem dX10_brought_9 : decode cX10_brought 9 = .ok (.invokevirtual 98, 3) := by decide +kernel
theorem dX10_brought_12 : decode cX10_brought 12 = .ok (.ifCond .eq 11, 3) := by decide +kernel
theorem dX10_brought_15 : decode cX10_brought 15 = .ok (.aload_n 0, 1) := by decide +kernel
theorem dX10_brought_16 : decode cX10_brought 16 = .ok (.iload_n 3, 1) := by decide +kernel
theorem dX10_brought_17 : decode cX10_brought 17 = .ok (.invokevirtual 59, 3) := by decide +kernel
theorem dX10_brought_20 : decode cX10_brought 20 = .ok (.ifCond .ne 6, 3) := by decide +kernel
theorem dX10_brought_23 : decode cX10_brought 23 = .ok (.bipush (-2), 2) := by decide +kernel
theorem dX10_brought_25 : decode cX10_brought 25 = .ok (.ireturn, 1) := by decide +kernel
theorem dX10_brought_26 : decode cX10_brought 26 = .ok (.aload_n 0, 1) := by decide +kernel
theorem dX10_brought_27 : decode cX10_brought 27 = .ok (.iload_n 1, 1) := by decide +kernel
theorem dX10_brought_28 : decode cX10_brought 28 = .ok (.iload_n 2, 1) := by decide +kernel
theorem dX10_brought_29 : decode cX10_brought 29 = .ok (.invokevirtual 91, 3) := by decide +kernel
theorem dX10_brought_32 : decode cX10_brought 32 = .ok (.istore 4, 2) := by decide +kernel
theorem dX10_brought_34 : decode cX10_brought 34 = .ok (.aload_n 0, 1) := by decide +kernel
theorem dX10_brought_35 : decode cX10_brought 35 = .ok (.iload_n 3, 1) := by decide +kernel
theorem dX10_brought_36 : decode cX10_brought 36 = .ok (.invokevirtual 101, 3) := by decide +kernel
theorem dX10_brought_39 : decode cX10_brought 39 = .ok (.istore 5, 2) := by decide +kernel
theorem dX10_brought_41 : decode cX10_brought 41 = .ok (.iload 5, 2) := by decide +kernel
theorem dX10_brought_43 : decode cX10_brought 43 = .ok (.iconst 1, 1) := by decide +kernel
theorem dX10_brought_44 : decode cX10_brought 44 = .ok (.if_icmp .ge 6, 3) := by decide +kernel
theorem dX10_brought_47 : decode cX10_brought 47 = .ok (.iload 5, 2) := by decide +kernel
theorem dX10_brought_49 : decode cX10_brought 49 = .ok (.ireturn, 1) := by decide +kernel
theorem dX10_brought_50 : decode cX10_brought 50 = .ok (.aload_n 0, 1) := by decide +kernel
theorem dX10_brought_51 : decode cX10_brought 51 = .ok (.getfield 22, 3) := by decide +kernel
theorem dX10_brought_54 : decode cX10_brought 54 = .ok (.iload 5, 2) := by decide +kernel
theorem dX10_brought_56 : decode cX10_brought 56 = .ok (.iconst 1, 1) := by decide +kernel
theorem dX10_brought_57 : decode cX10_brought 57 = .ok (.isub, 1) := by decide +kernel
theorem dX10_brought_58 : decode cX10_brought 58 = .ok (.iaload, 1) := by decide +kernel
theorem dX10_brought_59 : decode cX10_brought 59 = .ok (.istore 6, 2) := by decide +kernel
theorem dX10_brought_61 : decode cX10_brought 61 = .ok (.iload_n 1, 1) := by decide +kernel
theorem dX10_brought_62 : decode cX10_brought 62 = .ok (.ifCond .ne 12, 3) := by decide +kernel
theorem dX10_brought_65 : decode cX10_brought 65 = .ok (.iload 6, 2) := by decide +kernel
theorem dX10_brought_67 : decode cX10_brought 67 = .ok (.aload_n 0, 1) := by decide +kernel
theorem dX10_brought_68 : decode cX10_brought 68 = .ok (.iload_n 3, 1) := by decide +kernel
theorem dX10_brought_69 : decode cX10_brought 69 = .ok (.invokevirtual 67, 3) := by decide +kernel
theorem dX10_brought_72 : decode cX10_brought 72 = .ok (.iand, 1) := by decide +kernel
theorem dX10_brought_73 : decode cX10_brought 73 = .ok (.ireturn, 1) := by decide +kernel
theorem dX10_brought_74 : decode cX10_brought 74 = .ok (.iconst 0, 1) := by decide +kernel
theorem dX10_brought_75 : decode cX10_brought 75 = .ok (.istore 7, 2) := by decide +kernel
theorem dX10_brought_77 : decode cX10_brought 77 = .ok (.iload 7, 2) := by decide +kernel
theorem dX10_brought_79 : decode cX10_brought 79 = .ok (.aload_n 0, 1) := by decide +kernel
theorem dX10_brought_80 : decode cX10_brought 80 = .ok (.getfield 48, 3) := by decide +kernel
theorem dX10_brought_83 : decode cX10_brought 83 = .ok (.if_icmp .ge 71, 3) := by decide +kernel
theorem dX10_brought_86 : decode cX10_brought 86 = .ok (.iload 6, 2) := by decide +kernel
theorem dX10_brought_88 : decode cX10_brought 88 = .ok (.iload 7, 2) := by decide +kernel
theorem dX10_brought_90 : decode cX10_brought 90 = .ok (.invokestatic 70, 3) := by decide +kernel
theorem dX10_brought_93 : decode cX10_brought 93 = .ok (.ifCond .ne 6, 3) := by decide +kernel
theorem dX10_brought_96 : decode cX10_brought 96 = .ok (.goto 52, 3) := by decide +kernel
theorem dX10_brought_99 : decode cX10_brought 99 = .ok (.iload_n 1, 1) := by decide +kernel
theorem dX10_brought_100 : decode cX10_brought 100 = .ok (.iconst 2, 1) := by decide +kernel
theorem dX10_brought_101 : decode cX10_brought 101 = .ok (.if_icmp .ne 25, 3) := by decide +kernel
theorem dX10_brought_104 : decode cX10_brought 104 = .ok (.iload 5, 2) := by decide +kernel
theorem dX10_brought_106 : decode cX10_brought 106 = .ok (.iconst 1, 1) := by decide +kernel
theorem dX10_brought_107 : decode cX10_brought 107 = .ok (.if_icmp .ne 19, 3) := by decide +kernel
theorem dX10_brought_110 : decode cX10_brought 110 = .ok (.aload_n 0, 1) := by decide +kernel
theorem dX10_brought_111 : decode cX10_brought 111 = .ok (.iload 7, 2) := by decide +kernel
theorem dX10_brought_113 : decode cX10_brought 113 = .ok (.invokevirtual 63, 3) := by decide +kernel
theorem dX10_brought_116 : decode cX10_brought 116 = .ok (.iload_n 3, 1) := by decide +kernel
theorem dX10_brought_117 : decode cX10_brought 117 = .ok (.invokestatic 70, 3) := by decide +kernel
theorem dX10_brought_120 : decode cX10_brought 120 = .ok (.ifCond .eq 28, 3) := by decide +kernel
theorem dX10_brought_123 : decode cX10_brought 123 = .ok (.goto 20, 3) := by decide +kernel
theorem dX10_brought_126 : decode cX10_brought 126 = .ok (.aload_n 0, 1) := by decide +kernel
theorem dX10_brought_127 : decode cX10_brought 127 = .ok (.iload 7, 2) := by decide +kernel
theorem dX10_brought_129 : decode cX10_brought 129 = .ok (.invokevirtual 63, 3) := by decide +kernel
theorem dX10_brought_132 : decode cX10_brought 132 = .ok (.iload 6, 2) := by decide +kernel
theorem dX10_brought_134 : decode cX10_brought 134 = .ok (.iconst (-1), 1) := by decide +kernel
theorem dX10_brought_135 : decode cX10_brought 135 = .ok (.ixor, 1) := by decide +kernel
theorem dX10_brought_136 : decode cX10_brought 136 = .ok (.iand, 1) := by decide +kernel
theorem dX10_brought_137 : decode cX10_brought 137 = .ok (.iconst 1, 1) := by decide +kernel
theorem dX10_brought_138 : decode cX10_brought 138 = .ok (.iload_n 3, 1) := by decide +kernel
theorem dX10_brought_139 : decode cX10_brought 139 = .ok (.ishl, 1) := by decide +kernel
theorem dX10_brought_140 : decode cX10_brought 140 = .ok (.if_icmp .ne 8, 3) := by decide +kernel
theorem dX10_brought_143 : decode cX10_brought 143 = .ok (.iconst 1, 1) := by decide +kernel
theorem dX10_brought_144 : decode cX10_brought 144 = .ok (.iload 7, 2) := by decide +kernel
theorem dX10_brought_146 : decode cX10_brought 146 = .ok (.ishl, 1) := by decide +kernel
theorem dX10_brought_147 : decode cX10_brought 147 = .ok (.ireturn, 1) := by decide +kernel
theorem dX10_brought_148 : decode cX10_brought 148 = .ok (.iinc 7 1, 3) := by decide +kernel
theorem dX10_brought_151 : decode cX10_brought 151 = .ok (.goto (-74), 3) := by decide +kernel
theorem dX10_brought_154 : decode cX10_brought 154 = .ok (.iconst 0, 1) := by decide +kernel
theorem dX10_brought_155 : decode cX10_brought 155 = .ok (.ireturn, 1) := by decide +kernel
theorem dX10_isFort_0 : decode cX10_isFort 0 = .ok (.aload_n 0, 1) := by decide +kernel
theorem dX10_isFort_1 : decode cX10_isFort 1 = .ok (.invokevirtual 87, 3) := by decide +kernel
theorem dX10_isFort_4 : decode cX10_isFort 4 = .ok (.iload_n 2, 1) := by decide +kernel
theorem dX10_isFort_5 : decode cX10_isFort 5 = .ok (.iconst (-1), 1) := by decide +kernel
theorem dX10_isFort_6 : decode cX10_isFort 6 = .ok (.ixor, 1) := by decide +kernel
theorem dX10_isFort_7 : decode cX10_isFort 7 = .ok (.iand, 1) := by decide +kernel
theorem dX10_isFort_8 : decode cX10_isFort 8 = .ok (.istore_n 3, 1) := by decide +kernel
theorem dX10_isFort_9 : decode cX10_isFort 9 = .ok (.iload_n 2, 1) := by decide +kernel
theorem dX10_isFort_10 : decode cX10_isFort 10 = .ok (.ifCond .eq 18, 3) := by decide +kernel
theorem dX10_isFort_13 : decode cX10_isFort 13 = .ok (.aload_n 0, 1) := by decide +kernel
theorem dX10_isFort_14 : decode cX10_isFort 14 = .ok (.iload_n 1, 1) := by decide +kernel
theorem dX10_isFort_15 : decode cX10_isFort 15 = .ok (.iload_n 3, 1) := by decide +kernel
theorem dX10_isFort_16 : decode cX10_isFort 16 = .ok (.iconst 2, 1) := by decide +kernel
theorem dX10_isFort_17 : decode cX10_isFort 17 = .ok (.invokevirtual 80, 3) := by decide +kernel
theorem dX10_isFort_20 : decode cX10_isFort 20 = .ok (.iload_n 3, 1) := by decide +kernel
theorem dX10_isFort_21 : decode cX10_isFort 21 = .ok (.if_icmp .ne 7, 3) := by decide +kernel
theorem dX10_isFort_24 : decode cX10_isFort 24 = .ok (.iconst 1, 1) := by decide +kernel
theorem dX10_isFort_25 : decode cX10_isFort 25 = .ok (.goto 4, 3) := by decide +kernel
theorem dX10_isFort_28 : decode cX10_isFort 28 = .ok (.iconst 0, 1) := by decide +kernel
theorem dX10_isFort_29 : decode cX10_isFort 29 = .ok (.ireturn, 1) := by decide +kernel
theorem dX10_fort_0 : decode cX10_fort 0 = .ok (.iload_n 1, 1) := by decide +kernel
theorem dX10_fort_1 : decode cX10_fort 1 = .ok (.iconst 0, 1) := by decide +kernel
theorem dX10_fort_2 : decode cX10_fort 2 = .ok (.iconst 1, 1) := by decide +kernel
theorem dX10_fort_3 : decode cX10_fort 3 = .ok (.invokestatic 52, 3) := by decide +kernel
theorem dX10_fort_6 : decode cX10_fort 6 = .ok (.ifCond .eq 11, 3) := by decide +kernel
theorem dX10_fort_9 : decode cX10_fort 9 = .ok (.aload_n 0, 1) := by decide +kernel
theorem dX10_fort_10 : decode cX10_fort 10 = .ok (.iload_n 2, 1) := by decide +kernel
theorem dX10_fort_11 : decode cX10_fort 11 = .ok (.invokevirtual 98, 3) := by decide +kernel
theorem dX10_fort_14 : decode cX10_fort 14 = .ok (.ifCond .ne 6, 3) := by decide +kernel
theorem dX10_fort_17 : decode cX10_fort 17 = .ok (.bipush (-2), 2) := by decide +kernel
theorem dX10_fort_19 : decode cX10_fort 19 = .ok (.ireturn, 1) := by decide +kernel
theorem dX10_fort_20 : decode cX10_fort 20 = .ok (.aload_n 0, 1) := by decide +kernel
theorem dX10_fort_21 : decode cX10_fort 21 = .ok (.iload_n 1, 1) := by decide +kernel
theorem dX10_fort_22 : decode cX10_fort 22 = .ok (.iload_n 2, 1) := by decide +kernel
theorem dX10_fort_23 : decode cX10_fort 23 = .ok (.invokevirtual 104, 3) := by decide +kernel
theorem dX10_fort_26 : decode cX10_fort 26 = .ok (.ifCond .eq 7, 3) := by decide +kernel
theorem dX10_fort_29 : decode cX10_fort 29 = .ok (.iconst 1, 1) := by decide +kernel
theorem dX10_fort_30 : decode cX10_fort 30 = .ok (.goto 4, 3) := by decide +kernel
theorem dX10_fort_33 : decode cX10_fort 33 = .ok (.iconst 0, 1) := by decide +kernel
theorem dX10_fort_34 : decode cX10_fort 34 = .ok (.ireturn, 1) := by decide +kernel
theorem dX10_findForts_0 : decode cX10_findForts 0 = .ok (.aload_n 0, 1) := by decide +kernel
theorem dX10_findForts_1 : decode cX10_findForts 1 = .ok (.bipush 6, 2) := by decide +kernel
theorem dX10_findForts_3 : decode cX10_findForts 3 = .ok (.iload_n 1, 1) := by decide +kernel
theorem dX10_findForts_4 : decode cX10_findForts 4 = .ok (.iadd, 1) := by decide +kernel
theorem dX10_findForts_5 : decode cX10_findForts 5 = .ok (.invokevirtual 84, 3) := by decide +kernel
theorem dX10_findForts_8 : decode cX10_findForts 8 = .ok (.ifCond .eq 4, 3) := by decide +kernel
theorem dX10_findForts_11 : decode cX10_findForts 11 = .ok (.return_, 1) := by decide +kernel
theorem dX10_findForts_12 : decode cX10_findForts 12 = .ok (.sipush 4096, 3) := by decide +kernel
theorem dX10_findForts_15 : decode cX10_findForts 15 = .ok (.iload_n 1, 1) := by decide +kernel
theorem dX10_findForts_16 : decode cX10_findForts 16 = .ok (.imul, 1) := by decide +kernel
theorem dX10_findForts_17 : decode cX10_findForts 17 = .ok (.istore_n 2, 1) := by decide +kernel
theorem dX10_findForts_18 : decode cX10_findForts 18 = .ok (.iconst 0, 1) := by decide +kernel
theorem dX10_findForts_19 : decode cX10_findForts 19 = .ok (.istore_n 3, 1) := by decide +kernel
theorem dX10_findForts_20 : decode cX10_findForts 20 = .ok (.iload_n 3, 1) := by decide +kernel
theorem dX10_findForts_21 : decode cX10_findForts 21 = .ok (.aload_n 0, 1) := by decide +kernel
theorem dX10_findForts_22 : decode cX10_findForts 22 = .ok (.invokevirtual 87, 3) := by decide +kernel
theorem dX10_findForts_25 : decode cX10_findForts 25 = .ok (.if_icmp .gt 23, 3) := by decide +kernel
theorem dX10_findForts_28 : decode cX10_findForts 28 = .ok (.aload_n 0, 1) := by decide +kernel
theorem dX10_findForts_29 : decode cX10_findForts 29 = .ok (.getfield 28, 3) := by decide +kernel
theorem dX10_findForts_32 : decode cX10_findForts 32 = .ok (.iload_n 2, 1) := by decide +kernel
theorem dX10_findForts_33 : decode cX10_findForts 33 = .ok (.iload_n 3, 1) := by decide +kernel
theorem dX10_findForts_34 : decode cX10_findForts 34 = .ok (.iadd, 1) := by decide +kernel
theorem dX10_findForts_35 : decode cX10_findForts 35 = .ok (.aload_n 0, 1) := by decide +kernel
theorem dX10_findForts_36 : decode cX10_findForts 36 = .ok (.iload_n 1, 1) := by decide +kernel
theorem dX10_findForts_37 : decode cX10_findForts 37 = .ok (.iload_n 3, 1) := by decide +kernel
theorem dX10_findForts_38 : decode cX10_findForts 38 = .ok (.invokevirtual 104, 3) := by decide +kernel
theorem dX10_findForts_41 : decode cX10_findForts 41 = .ok (.bastore, 1) := by decide +kernel
theorem dX10_findForts_42 : decode cX10_findForts 42 = .ok (.iinc 3 1, 3) := by decide +kernel
theorem dX10_findForts_45 : decode cX10_findForts 45 = .ok (.goto (-25), 3) := by decide +kernel
theorem dX10_findForts_48 : decode cX10_findForts 48 = .ok (.aload_n 0, 1) := by decide +kernel
theorem dX10_findForts_49 : decode cX10_findForts 49 = .ok (.invokevirtual 87, 3) := by decide +kernel
theorem dX10_findForts_52 : decode cX10_findForts 52 = .ok (.istore_n 3, 1) := by decide +kernel
theorem dX10_findForts_53 : decode cX10_findForts 53 = .ok (.iload_n 3, 1) := by decide +kernel
theorem dX10_findForts_54 : decode cX10_findForts 54 = .ok (.ifCond .le 76, 3) := by decide +kernel
theorem dX10_findForts_57 : decode cX10_findForts 57 = .ok (.aload_n 0, 1) := by decide +kernel
theorem dX10_findForts_58 : decode cX10_findForts 58 = .ok (.getfield 28, 3) := by decide +kernel
theorem dX10_findForts_61 : decode cX10_findForts 61 = .ok (.iload_n 2, 1) := by decide +kernel
theorem dX10_findForts_62 : decode cX10_findForts 62 = .ok (.iload_n 3, 1) := by decide +kernel
theorem dX10_findForts_63 : decode cX10_findForts 63 = .ok (.iadd, 1) := by decide +kernel
theorem dX10_findForts_64 : decode cX10_findForts 64 = .ok (.baload, 1) := by decide +kernel
theorem dX10_findForts_65 : decode cX10_findForts 65 = .ok (.istore 4, 2) := by decide +kernel
theorem dX10_findForts_67 : decode cX10_findForts 67 = .ok (.iload_n 3, 1) := by decide +kernel
theorem dX10_findForts_68 : decode cX10_findForts 68 = .ok (.iconst 1, 1) := by decide +kernel
theorem dX10_findForts_69 : decode cX10_findForts 69 = .ok (.isub, 1) := by decide +kernel
theorem dX10_findForts_70 : decode cX10_findForts 70 = .ok (.iload_n 3, 1) := by decide +kernel
theorem dX10_findForts_71 : decode cX10_findForts 71 = .ok (.iand, 1) := by decide +kernel
theorem dX10_findForts_72 : decode cX10_findForts 72 = .ok (.istore 5, 2) := by decide +kernel
theorem dX10_findForts_74 : decode cX10_findForts 74 = .ok (.iload 5, 2) := by decide +kernel
theorem dX10_findForts_76 : decode cX10_findForts 76 = .ok (.ifCond .le 38, 3) := by decide +kernel
theorem dX10_findForts_79 : decode cX10_findForts 79 = .ok (.iload 4, 2) := by decide +kernel
theorem dX10_findForts_81 : decode cX10_findForts 81 = .ok (.ifCond .eq 33, 3) := by decide +kernel
theorem dX10_findForts_84 : decode cX10_findForts 84 = .ok (.aload_n 0, 1) := by decide +kernel
theorem dX10_findForts_85 : decode cX10_findForts 85 = .ok (.getfield 28, 3) := by decide +kernel
theorem dX10_findForts_88 : decode cX10_findForts 88 = .ok (.iload_n 2, 1) := by decide +kernel
theorem dX10_findForts_89 : decode cX10_findForts 89 = .ok (.iload 5, 2) := by decide +kernel
theorem dX10_findForts_91 : decode cX10_findForts 91 = .ok (.iadd, 1) := by decide +kernel
theorem dX10_findForts_92 : decode cX10_findForts 92 = .ok (.baload, 1) := by decide +kernel
theorem dX10_findForts_93 : decode cX10_findForts 93 = .ok (.ifCond .ne 7, 3) := by decide +kernel
theorem dX10_findForts_96 : decode cX10_findForts 96 = .ok (.iconst 1, 1) := by decide +kernel
theorem dX10_findForts_97 : decode cX10_findForts 97 = .ok (.goto 4, 3) := by decide +kernel
theorem dX10_findForts_100 : decode cX10_findForts 100 = .ok (.iconst 0, 1) := by decide +kernel
theorem dX10_findForts_101 : decode cX10_findForts 101 = .ok (.istore 4, 2) := by decide +kernel
theorem dX10_findForts_103 : decode cX10_findForts 103 = .ok (.iload 5, 2) := by decide +kernel
theorem dX10_findForts_105 : decode cX10_findForts 105 = .ok (.iconst 1, 1) := by decide +kernel
theorem dX10_findForts_106 : decode cX10_findForts 106 = .ok (.isub, 1) := by decide +kernel
theorem dX10_findForts_107 : decode cX10_findForts 107 = .ok (.iload_n 3, 1) := by decide +kernel
theorem dX10_findForts_108 : decode cX10_findForts 108 = .ok (.iand, 1) := by decide +kernel
theorem dX10_findForts_109 : decode cX10_findForts 109 = .ok (.istore 5, 2) := by decide +kernel
theorem dX10_findForts_111 : decode cX10_findForts 111 = .ok (.goto (-37), 3) := by decide +kernel
theorem dX10_findForts_114 : decode cX10_findForts 114 = .ok (.aload_n 0, 1) := by decide +kernel
theorem dX10_findForts_115 : decode cX10_findForts 115 = .ok (.getfield 28, 3) := by decide +kernel
theorem dX10_findForts_118 : decode cX10_findForts 118 = .ok (.iload_n 2, 1) := by decide +kernel
theorem dX10_findForts_119 : decode cX10_findForts 119 = .ok (.iload_n 3, 1) := by decide +kernel
theorem dX10_findForts_120 : decode cX10_findForts 120 = .ok (.iadd, 1) := by decide +kernel
theorem dX10_findForts_121 : decode cX10_findForts 121 = .ok (.iload 4, 2) := by decide +kernel
theorem dX10_findForts_123 : decode cX10_findForts 123 = .ok (.bastore, 1) := by decide +kernel
theorem dX10_findForts_124 : decode cX10_findForts 124 = .ok (.iinc 3 (-1), 3) := by decide +kernel
theorem dX10_findForts_127 : decode cX10_findForts 127 = .ok (.goto (-74), 3) := by decide +kernel
theorem dX10_findForts_130 : decode cX10_findForts 130 = .ok (.return_, 1) := by decide +kernel
theorem dX10_forts_0 : decode cX10_forts 0 = .ok (.iload_n 1, 1) := by decide +kernel
theorem dX10_forts_1 : decode cX10_forts 1 = .ok (.iconst 0, 1) := by decide +kernel
theorem dX10_forts_2 : decode cX10_forts 2 = .ok (.iconst 1, 1) := by decide +kernel
theorem dX10_forts_3 : decode cX10_forts 3 = .ok (.invokestatic 52, 3) := by decide +kernel
theorem dX10_forts_6 : decode cX10_forts 6 = .ok (.ifCond .eq 7, 3) := by decide +kernel
theorem dX10_forts_9 : decode cX10_forts 9 = .ok (.iload_n 2, 1) := by decide +kernel
theorem dX10_forts_10 : decode cX10_forts 10 = .ok (.ifCond .ge 6, 3) := by decide +kernel
theorem dX10_forts_13 : decode cX10_forts 13 = .ok (.bipush (-2), 2) := by decide +kernel
theorem dX10_forts_15 : decode cX10_forts 15 = .ok (.ireturn, 1) := by decide +kernel
theorem dX10_forts_16 : decode cX10_forts 16 = .ok (.aload_n 0, 1) := by decide +kernel
theorem dX10_forts_17 : decode cX10_forts 17 = .ok (.iload_n 1, 1) := by decide +kernel
theorem dX10_forts_18 : decode cX10_forts 18 = .ok (.invokevirtual 107, 3) := by decide +kernel
theorem dX10_forts_21 : decode cX10_forts 21 = .ok (.iload_n 2, 1) := by decide +kernel
theorem dX10_forts_22 : decode cX10_forts 22 = .ok (.istore_n 3, 1) := by decide +kernel
theorem dX10_forts_23 : decode cX10_forts 23 = .ok (.iconst 1, 1) := by decide +kernel
theorem dX10_forts_24 : decode cX10_forts 24 = .ok (.istore 4, 2) := by decide +kernel
theorem dX10_forts_26 : decode cX10_forts 26 = .ok (.iload 4, 2) := by decide +kernel
theorem dX10_forts_28 : decode cX10_forts 28 = .ok (.aload_n 0, 1) := by decide +kernel
theorem dX10_forts_29 : decode cX10_forts 29 = .ok (.getfield 48, 3) := by decide +kernel
theorem dX10_forts_32 : decode cX10_forts 32 = .ok (.if_icmp .gt 66, 3) := by decide +kernel
theorem dX10_forts_35 : decode cX10_forts 35 = .ok (.iconst 1, 1) := by decide +kernel
theorem dX10_forts_36 : decode cX10_forts 36 = .ok (.istore 5, 2) := by decide +kernel
theorem dX10_forts_38 : decode cX10_forts 38 = .ok (.iload 5, 2) := by decide +kernel
theorem dX10_forts_40 : decode cX10_forts 40 = .ok (.aload_n 0, 1) := by decide +kernel
theorem dX10_forts_41 : decode cX10_forts 41 = .ok (.invokevirtual 87, 3) := by decide +kernel
theorem dX10_forts_44 : decode cX10_forts 44 = .ok (.if_icmp .gt 48, 3) := by decide +kernel
theorem dX10_forts_47 : decode cX10_forts 47 = .ok (.aload_n 0, 1) := by decide +kernel
theorem dX10_forts_48 : decode cX10_forts 48 = .ok (.getfield 28, 3) := by decide +kernel
theorem dX10_forts_51 : decode cX10_forts 51 = .ok (.sipush 4096, 3) := by decide +kernel
theorem dX10_forts_54 : decode cX10_forts 54 = .ok (.iload_n 1, 1) := by decide +kernel
theorem dX10_forts_55 : decode cX10_forts 55 = .ok (.imul, 1) := by decide +kernel
theorem dX10_forts_56 : decode cX10_forts 56 = .ok (.iload 5, 2) := by decide +kernel
theorem dX10_forts_58 : decode cX10_forts 58 = .ok (.iadd, 1) := by decide +kernel
theorem dX10_forts_59 : decode cX10_forts 59 = .ok (.baload, 1) := by decide +kernel
theorem dX10_forts_60 : decode cX10_forts 60 = .ok (.ifCond .eq 26, 3) := by decide +kernel
theorem dX10_forts_63 : decode cX10_forts 63 = .ok (.iload 5, 2) := by decide +kernel
theorem dX10_forts_65 : decode cX10_forts 65 = .ok (.invokestatic 111, 3) := by decide +kernel
theorem dX10_forts_68 : decode cX10_forts 68 = .ok (.iload 4, 2) := by decide +kernel
theorem dX10_forts_70 : decode cX10_forts 70 = .ok (.if_icmp .eq 6, 3) := by decide +kernel
theorem dX10_forts_73 : decode cX10_forts 73 = .ok (.goto 13, 3) := by decide +kernel
theorem dX10_forts_76 : decode cX10_forts 76 = .ok (.iload_n 3, 1) := by decide +kernel
theorem dX10_forts_77 : decode cX10_forts 77 = .ok (.ifCond .ne 6, 3) := by decide +kernel
theorem dX10_forts_80 : decode cX10_forts 80 = .ok (.iload 5, 2) := by decide +kernel
theorem dX10_forts_82 : decode cX10_forts 82 = .ok (.ireturn, 1) := by decide +kernel
theorem dX10_forts_83 : decode cX10_forts 83 = .ok (.iinc 3 (-1), 3) := by decide +kernel
theorem dX10_forts_86 : decode cX10_forts 86 = .ok (.iinc 5 1, 3) := by decide +kernel
theorem dX10_forts_89 : decode cX10_forts 89 = .ok (.goto (-51), 3) := by decide +kernel
theorem dX10_forts_92 : decode cX10_forts 92 = .ok (.iinc 4 1, 3) := by decide +kernel
theorem dX10_forts_95 : decode cX10_forts 95 = .ok (.goto (-69), 3) := by decide +kernel
theorem dX10_forts_98 : decode cX10_forts 98 = .ok (.iconst (-1), 1) := by decide +kernel
theorem dX10_forts_99 : decode cX10_forts 99 = .ok (.ireturn, 1) := by decide +kernel
theorem dX10_apart_0 : decode cX10_apart 0 = .ok (.iload_n 1, 1) := by decide +kernel
theorem dX10_apart_1 : decode cX10_apart 1 = .ok (.iconst 0, 1) := by decide +kernel
theorem dX10_apart_2 : decode cX10_apart 2 = .ok (.iconst 1, 1) := by decide +kernel
theorem dX10_apart_3 : decode cX10_apart 3 = .ok (.invokestatic 52, 3) := by decide +kernel
theorem dX10_apart_6 : decode cX10_apart 6 = .ok (.ifCond .ne 6, 3) := by decide +kernel
theorem dX10_apart_9 : decode cX10_apart 9 = .ok (.bipush (-2), 2) := by decide +kernel
theorem dX10_apart_11 : decode cX10_apart 11 = .ok (.ireturn, 1) := by decide +kernel
theorem dX10_apart_12 : decode cX10_apart 12 = .ok (.aload_n 0, 1) := by decide +kernel
theorem dX10_apart_13 : decode cX10_apart 13 = .ok (.iload_n 1, 1) := by decide +kernel
theorem dX10_apart_14 : decode cX10_apart 14 = .ok (.invokevirtual 107, 3) := by decide +kernel
theorem dX10_apart_17 : decode cX10_apart 17 = .ok (.aload_n 0, 1) := by decide +kernel
theorem dX10_apart_18 : decode cX10_apart 18 = .ok (.getfield 32, 3) := by decide +kernel
theorem dX10_apart_21 : decode cX10_apart 21 = .ok (.iconst 0, 1) := by decide +kernel
theorem dX10_apart_22 : decode cX10_apart 22 = .ok (.iconst 0, 1) := by decide +kernel
theorem dX10_apart_23 : decode cX10_apart 23 = .ok (.iastore, 1) := by decide +kernel
theorem dX10_apart_24 : decode cX10_apart 24 = .ok (.iconst 1, 1) := by decide +kernel
theorem dX10_apart_25 : decode cX10_apart 25 = .ok (.istore_n 2, 1) := by decide +kernel
theorem dX10_apart_26 : decode cX10_apart 26 = .ok (.iload_n 2, 1) := by decide +kernel
theorem dX10_apart_27 : decode cX10_apart 27 = .ok (.aload_n 0, 1) := by decide +kernel
theorem dX10_apart_28 : decode cX10_apart 28 = .ok (.invokevirtual 87, 3) := by decide +kernel
theorem dX10_apart_31 : decode cX10_apart 31 = .ok (.if_icmp .gt 109, 3) := by decide +kernel
theorem dX10_apart_34 : decode cX10_apart 34 = .ok (.iload_n 2, 1) := by decide +kernel
theorem dX10_apart_35 : decode cX10_apart 35 = .ok (.iload_n 2, 1) := by decide +kernel
theorem dX10_apart_36 : decode cX10_apart 36 = .ok (.ineg, 1) := by decide +kernel
theorem dX10_apart_37 : decode cX10_apart 37 = .ok (.iand, 1) := by decide +kernel
theorem dX10_apart_38 : decode cX10_apart 38 = .ok (.istore_n 3, 1) := by decide +kernel
theorem dX10_apart_39 : decode cX10_apart 39 = .ok (.aload_n 0, 1) := by decide +kernel
theorem dX10_apart_40 : decode cX10_apart 40 = .ok (.getfield 32, 3) := by decide +kernel
theorem dX10_apart_43 : decode cX10_apart 43 = .ok (.iload_n 2, 1) := by decide +kernel
theorem dX10_apart_44 : decode cX10_apart 44 = .ok (.iload_n 3, 1) := by decide +kernel
theorem dX10_apart_45 : decode cX10_apart 45 = .ok (.iconst (-1), 1) := by decide +kernel
theorem dX10_apart_46 : decode cX10_apart 46 = .ok (.ixor, 1) := by decide +kernel
theorem dX10_apart_47 : decode cX10_apart 47 = .ok (.iand, 1) := by decide +kernel
theorem dX10_apart_48 : decode cX10_apart 48 = .ok (.iaload, 1) := by decide +kernel
theorem dX10_apart_49 : decode cX10_apart 49 = .ok (.istore 4, 2) := by decide +kernel
theorem dX10_apart_51 : decode cX10_apart 51 = .ok (.iload_n 2, 1) := by decide +kernel
