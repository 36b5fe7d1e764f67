theorem dX10_apart_52 : decode cX10_apart 52 = .ok (.istore 5, 2) := by decide +kernel
theorem dX10_apart_54 : decode cX10_apart 54 = .ok (.iload 5, 2) := by decide +kernel
theorem dX10_apart_56 : decode cX10_apart 56 = .ok (.ifCond .le 70, 3) := by decide +kernel
theorem dX10_apart_59 : decode cX10_apart 59 = .ok (.aload_n 0, 1) := by decide +kernel
theorem dX10_apart_60 : decode cX10_apart 60 = .ok (.getfield 28, 3) := by decide +kernel
theorem dX10_apart_63 : decode cX10_apart 63 = .ok (.sipush 4096, 3) := by decide +kernel
theorem dX10_apart_66 : decode cX10_apart 66 = .ok (.iload_n 1, 1) := by decide +kernel
theorem dX10_apart_67 : decode cX10_apart 67 = .ok (.imul, 1) := by decide +kernel
theorem dX10_apart_68 : decode cX10_apart 68 = .ok (.iload 5, 2) := by decide +kernel
theorem dX10_apart_70 : decode cX10_apart 70 = .ok (.iadd, 1) := by decide +kernel
theorem dX10_apart_71 : decode cX10_apart 71 = .ok (.baload, 1) := by decide +kernel
theorem dX10_apart_72 : decode cX10_apart 72 = .ok (.ifCond .eq 43, 3) := by decide +kernel
theorem dX10_apart_75 : decode cX10_apart 75 = .ok (.iload 5, 2) := by decide +kernel
theorem dX10_apart_77 : decode cX10_apart 77 = .ok (.iload_n 3, 1) := by decide +kernel
theorem dX10_apart_78 : decode cX10_apart 78 = .ok (.iand, 1) := by decide +kernel
theorem dX10_apart_79 : decode cX10_apart 79 = .ok (.ifCond .eq 36, 3) := by decide +kernel
theorem dX10_apart_82 : decode cX10_apart 82 = .ok (.iconst 1, 1) := by decide +kernel
theorem dX10_apart_83 : decode cX10_apart 83 = .ok (.aload_n 0, 1) := by decide +kernel
theorem dX10_apart_84 : decode cX10_apart 84 = .ok (.getfield 32, 3) := by decide +kernel
theorem dX10_apart_87 : decode cX10_apart 87 = .ok (.iload_n 2, 1) := by decide +kernel
theorem dX10_apart_88 : decode cX10_apart 88 = .ok (.iload 5, 2) := by decide +kernel
theorem dX10_apart_90 : decode cX10_apart 90 = .ok (.iconst (-1), 1) := by decide +kernel
theorem dX10_apart_91 : decode cX10_apart 91 = .ok (.ixor, 1) := by decide +kernel
theorem dX10_apart_92 : decode cX10_apart 92 = .ok (.iand, 1) := by decide +kernel
theorem dX10_apart_93 : decode cX10_apart 93 = .ok (.iaload, 1) := by decide +kernel
theorem dX10_apart_94 : decode cX10_apart 94 = .ok (.iadd, 1) := by decide +kernel
theorem dX10_apart_95 : decode cX10_apart 95 = .ok (.iload 4, 2) := by decide +kernel
theorem dX10_apart_97 : decode cX10_apart 97 = .ok (.if_icmp .le 18, 3) := by decide +kernel
theorem dX10_apart_100 : decode cX10_apart 100 = .ok (.iconst 1, 1) := by decide +kernel
theorem dX10_apart_101 : decode cX10_apart 101 = .ok (.aload_n 0, 1) := by decide +kernel
theorem dX10_apart_102 : decode cX10_apart 102 = .ok (.getfield 32, 3) := by decide +kernel
theorem dX10_apart_105 : decode cX10_apart 105 = .ok (.iload_n 2, 1) := by decide +kernel
theorem dX10_apart_106 : decode cX10_apart 106 = .ok (.iload 5, 2) := by decide +kernel
theorem dX10_apart_108 : decode cX10_apart 108 = .ok (.iconst (-1), 1) := by decide +kernel
theorem dX10_apart_109 : decode cX10_apart 109 = .ok (.ixor, 1) := by decide +kernel
theorem dX10_apart_110 : decode cX10_apart 110 = .ok (.iand, 1) := by decide +kernel
theorem dX10_apart_111 : decode cX10_apart 111 = .ok (.iaload, 1) := by decide +kernel
theorem dX10_apart_112 : decode cX10_apart 112 = .ok (.iadd, 1) := by decide +kernel
theorem dX10_apart_113 : decode cX10_apart 113 = .ok (.istore 4, 2) := by decide +kernel
theorem dX10_apart_115 : decode cX10_apart 115 = .ok (.iload 5, 2) := by decide +kernel
theorem dX10_apart_117 : decode cX10_apart 117 = .ok (.iconst 1, 1) := by decide +kernel
theorem dX10_apart_118 : decode cX10_apart 118 = .ok (.isub, 1) := by decide +kernel
theorem dX10_apart_119 : decode cX10_apart 119 = .ok (.iload_n 2, 1) := by decide +kernel
theorem dX10_apart_120 : decode cX10_apart 120 = .ok (.iand, 1) := by decide +kernel
theorem dX10_apart_121 : decode cX10_apart 121 = .ok (.istore 5, 2) := by decide +kernel
theorem dX10_apart_123 : decode cX10_apart 123 = .ok (.goto (-69), 3) := by decide +kernel
theorem dX10_apart_126 : decode cX10_apart 126 = .ok (.aload_n 0, 1) := by decide +kernel
theorem dX10_apart_127 : decode cX10_apart 127 = .ok (.getfield 32, 3) := by decide +kernel
theorem dX10_apart_130 : decode cX10_apart 130 = .ok (.iload_n 2, 1) := by decide +kernel
theorem dX10_apart_131 : decode cX10_apart 131 = .ok (.iload 4, 2) := by decide +kernel
theorem dX10_apart_133 : decode cX10_apart 133 = .ok (.iastore, 1) := by decide +kernel
theorem dX10_apart_134 : decode cX10_apart 134 = .ok (.iinc 2 1, 3) := by decide +kernel
theorem dX10_apart_137 : decode cX10_apart 137 = .ok (.goto (-111), 3) := by decide +kernel
theorem dX10_apart_140 : decode cX10_apart 140 = .ok (.aload_n 0, 1) := by decide +kernel
theorem dX10_apart_141 : decode cX10_apart 141 = .ok (.getfield 32, 3) := by decide +kernel
theorem dX10_apart_144 : decode cX10_apart 144 = .ok (.aload_n 0, 1) := by decide +kernel
theorem dX10_apart_145 : decode cX10_apart 145 = .ok (.invokevirtual 87, 3) := by decide +kernel
theorem dX10_apart_148 : decode cX10_apart 148 = .ok (.iaload, 1) := by decide +kernel
theorem dX10_apart_149 : decode cX10_apart 149 = .ok (.ireturn, 1) := by decide +kernel
theorem dX10_setsGoing_0 : decode cX10_setsGoing 0 = .ok (.aload_n 0, 1) := by decide +kernel
theorem dX10_setsGoing_1 : decode cX10_setsGoing 1 = .ok (.iload_n 1, 1) := by decide +kernel
theorem dX10_setsGoing_2 : decode cX10_setsGoing 2 = .ok (.iload_n 2, 1) := by decide +kernel
theorem dX10_setsGoing_3 : decode cX10_setsGoing 3 = .ok (.invokevirtual 114, 3) := by decide +kernel
theorem dX10_setsGoing_6 : decode cX10_setsGoing 6 = .ok (.aload_n 0, 1) := by decide +kernel
theorem dX10_setsGoing_7 : decode cX10_setsGoing 7 = .ok (.invokevirtual 87, 3) := by decide +kernel
theorem dX10_setsGoing_10 : decode cX10_setsGoing 10 = .ok (.if_icmp .ne 7, 3) := by decide +kernel
theorem dX10_setsGoing_13 : decode cX10_setsGoing 13 = .ok (.iconst 1, 1) := by decide +kernel
theorem dX10_setsGoing_14 : decode cX10_setsGoing 14 = .ok (.goto 4, 3) := by decide +kernel
theorem dX10_setsGoing_17 : decode cX10_setsGoing 17 = .ok (.iconst 0, 1) := by decide +kernel
theorem dX10_setsGoing_18 : decode cX10_setsGoing 18 = .ok (.ireturn, 1) := by decide +kernel
theorem dX10_least_0 : decode cX10_least 0 = .ok (.iload_n 1, 1) := by decide +kernel
theorem dX10_least_1 : decode cX10_least 1 = .ok (.invokestatic 95, 3) := by decide +kernel
theorem dX10_least_4 : decode cX10_least 4 = .ok (.ifCond .ne 6, 3) := by decide +kernel
theorem dX10_least_7 : decode cX10_least 7 = .ok (.bipush (-2), 2) := by decide +kernel
theorem dX10_least_9 : decode cX10_least 9 = .ok (.ireturn, 1) := by decide +kernel
theorem dX10_least_10 : decode cX10_least 10 = .ok (.iconst 0, 1) := by decide +kernel
theorem dX10_least_11 : decode cX10_least 11 = .ok (.istore_n 2, 1) := by decide +kernel
theorem dX10_least_12 : decode cX10_least 12 = .ok (.iload_n 2, 1) := by decide +kernel
theorem dX10_least_13 : decode cX10_least 13 = .ok (.aload_n 0, 1) := by decide +kernel
theorem dX10_least_14 : decode cX10_least 14 = .ok (.getfield 48, 3) := by decide +kernel
theorem dX10_least_17 : decode cX10_least 17 = .ok (.if_icmp .gt 44, 3) := by decide +kernel
theorem dX10_least_20 : decode cX10_least 20 = .ok (.iconst 0, 1) := by decide +kernel
theorem dX10_least_21 : decode cX10_least 21 = .ok (.istore_n 3, 1) := by decide +kernel
theorem dX10_least_22 : decode cX10_least 22 = .ok (.iload_n 3, 1) := by decide +kernel
theorem dX10_least_23 : decode cX10_least 23 = .ok (.aload_n 0, 1) := by decide +kernel
theorem dX10_least_24 : decode cX10_least 24 = .ok (.invokevirtual 87, 3) := by decide +kernel
theorem dX10_least_27 : decode cX10_least 27 = .ok (.if_icmp .gt 28, 3) := by decide +kernel
theorem dX10_least_30 : decode cX10_least 30 = .ok (.iload_n 3, 1) := by decide +kernel
theorem dX10_least_31 : decode cX10_least 31 = .ok (.invokestatic 111, 3) := by decide +kernel
theorem dX10_least_34 : decode cX10_least 34 = .ok (.iload_n 2, 1) := by decide +kernel
theorem dX10_least_35 : decode cX10_least 35 = .ok (.if_icmp .ne 14, 3) := by decide +kernel
theorem dX10_least_38 : decode cX10_least 38 = .ok (.aload_n 0, 1) := by decide +kernel
theorem dX10_least_39 : decode cX10_least 39 = .ok (.iload_n 1, 1) := by decide +kernel
theorem dX10_least_40 : decode cX10_least 40 = .ok (.iload_n 3, 1) := by decide +kernel
theorem dX10_least_41 : decode cX10_least 41 = .ok (.invokevirtual 117, 3) := by decide +kernel
theorem dX10_least_44 : decode cX10_least 44 = .ok (.ifCond .eq 5, 3) := by decide +kernel
theorem dX10_least_47 : decode cX10_least 47 = .ok (.iload_n 3, 1) := by decide +kernel
theorem dX10_least_48 : decode cX10_least 48 = .ok (.ireturn, 1) := by decide +kernel
theorem dX10_least_49 : decode cX10_least 49 = .ok (.iinc 3 1, 3) := by decide +kernel
theorem dX10_least_52 : decode cX10_least 52 = .ok (.goto (-30), 3) := by decide +kernel
theorem dX10_least_55 : decode cX10_least 55 = .ok (.iinc 2 1, 3) := by decide +kernel
theorem dX10_least_58 : decode cX10_least 58 = .ok (.goto (-46), 3) := by decide +kernel
theorem dX10_least_61 : decode cX10_least 61 = .ok (.iconst (-1), 1) := by decide +kernel
theorem dX10_least_62 : decode cX10_least 62 = .ok (.ireturn, 1) := by decide +kernel
theorem dX10_many_0 : decode cX10_many 0 = .ok (.iload_n 1, 1) := by decide +kernel
theorem dX10_many_1 : decode cX10_many 1 = .ok (.invokestatic 95, 3) := by decide +kernel
theorem dX10_many_4 : decode cX10_many 4 = .ok (.ifCond .ne 6, 3) := by decide +kernel
theorem dX10_many_7 : decode cX10_many 7 = .ok (.bipush (-2), 2) := by decide +kernel
theorem dX10_many_9 : decode cX10_many 9 = .ok (.ireturn, 1) := by decide +kernel
theorem dX10_many_10 : decode cX10_many 10 = .ok (.aload_n 0, 1) := by decide +kernel
theorem dX10_many_11 : decode cX10_many 11 = .ok (.iload_n 1, 1) := by decide +kernel
theorem dX10_many_12 : decode cX10_many 12 = .ok (.invokevirtual 120, 3) := by decide +kernel
theorem dX10_many_15 : decode cX10_many 15 = .ok (.invokestatic 111, 3) := by decide +kernel
theorem dX10_many_18 : decode cX10_many 18 = .ok (.istore_n 2, 1) := by decide +kernel
theorem dX10_many_19 : decode cX10_many 19 = .ok (.iconst 0, 1) := by decide +kernel
theorem dX10_many_20 : decode cX10_many 20 = .ok (.istore_n 3, 1) := by decide +kernel
theorem dX10_many_21 : decode cX10_many 21 = .ok (.iconst 0, 1) := by decide +kernel
theorem dX10_many_22 : decode cX10_many 22 = .ok (.istore 4, 2) := by decide +kernel
theorem dX10_many_24 : decode cX10_many 24 = .ok (.iload 4, 2) := by decide +kernel
theorem dX10_many_26 : decode cX10_many 26 = .ok (.aload_n 0, 1) := by decide +kernel
theorem dX10_many_27 : decode cX10_many 27 = .ok (.invokevirtual 87, 3) := by decide +kernel
theorem dX10_many_30 : decode cX10_many 30 = .ok (.if_icmp .gt 36, 3) := by decide +kernel
theorem dX10_many_33 : decode cX10_many 33 = .ok (.iload_n 3, 1) := by decide +kernel
theorem dX10_many_34 : decode cX10_many 34 = .ok (.iload 4, 2) := by decide +kernel
theorem dX10_many_36 : decode cX10_many 36 = .ok (.invokestatic 111, 3) := by decide +kernel
theorem dX10_many_39 : decode cX10_many 39 = .ok (.iload_n 2, 1) := by decide +kernel
theorem dX10_many_40 : decode cX10_many 40 = .ok (.if_icmp .ne 17, 3) := by decide +kernel
theorem dX10_many_43 : decode cX10_many 43 = .ok (.aload_n 0, 1) := by decide +kernel
theorem dX10_many_44 : decode cX10_many 44 = .ok (.iload_n 1, 1) := by decide +kernel
theorem dX10_many_45 : decode cX10_many 45 = .ok (.iload 4, 2) := by decide +kernel
theorem dX10_many_47 : decode cX10_many 47 = .ok (.invokevirtual 117, 3) := by decide +kernel
theorem dX10_many_50 : decode cX10_many 50 = .ok (.ifCond .eq 7, 3) := by decide +kernel
theorem dX10_many_53 : decode cX10_many 53 = .ok (.iconst 1, 1) := by decide +kernel
theorem dX10_many_54 : decode cX10_many 54 = .ok (.goto 4, 3) := by decide +kernel
theorem dX10_many_57 : decode cX10_many 57 = .ok (.iconst 0, 1) := by decide +kernel
theorem dX10_many_58 : decode cX10_many 58 = .ok (.iadd, 1) := by decide +kernel
theorem dX10_many_59 : decode cX10_many 59 = .ok (.istore_n 3, 1) := by decide +kernel
theorem dX10_many_60 : decode cX10_many 60 = .ok (.iinc 4 1, 3) := by decide +kernel
theorem dX10_many_63 : decode cX10_many 63 = .ok (.goto (-39), 3) := by decide +kernel
theorem dX10_many_66 : decode cX10_many 66 = .ok (.iload_n 3, 1) := by decide +kernel
theorem dX10_many_67 : decode cX10_many 67 = .ok (.ireturn, 1) := by decide +kernel
theorem dX10_cheapest_0 : decode cX10_cheapest 0 = .ok (.iload_n 1, 1) := by decide +kernel
theorem dX10_cheapest_1 : decode cX10_cheapest 1 = .ok (.invokestatic 95, 3) := by decide +kernel
theorem dX10_cheapest_4 : decode cX10_cheapest 4 = .ok (.ifCond .ne 6, 3) := by decide +kernel
theorem dX10_cheapest_7 : decode cX10_cheapest 7 = .ok (.bipush (-2), 2) := by decide +kernel
theorem dX10_cheapest_9 : decode cX10_cheapest 9 = .ok (.ireturn, 1) := by decide +kernel
theorem dX10_cheapest_10 : decode cX10_cheapest 10 = .ok (.iconst 0, 1) := by decide +kernel
theorem dX10_cheapest_11 : decode cX10_cheapest 11 = .ok (.istore_n 2, 1) := by decide +kernel
theorem dX10_cheapest_12 : decode cX10_cheapest 12 = .ok (.ldc 123, 2) := by decide +kernel
theorem dX10_cheapest_14 : decode cX10_cheapest 14 = .ok (.istore_n 3, 1) := by decide +kernel
theorem dX10_cheapest_15 : decode cX10_cheapest 15 = .ok (.iconst 0, 1) := by decide +kernel
theorem dX10_cheapest_16 : decode cX10_cheapest 16 = .ok (.istore 4, 2) := by decide +kernel
theorem dX10_cheapest_18 : decode cX10_cheapest 18 = .ok (.iload 4, 2) := by decide +kernel
theorem dX10_cheapest_20 : decode cX10_cheapest 20 = .ok (.aload_n 0, 1) := by decide +kernel
theorem dX10_cheapest_21 : decode cX10_cheapest 21 = .ok (.invokevirtual 87, 3) := by decide +kernel
theorem dX10_cheapest_24 : decode cX10_cheapest 24 = .ok (.if_icmp .gt 81, 3) := by decide +kernel
theorem dX10_cheapest_27 : decode cX10_cheapest 27 = .ok (.iconst 0, 1) := by decide +kernel
theorem dX10_cheapest_28 : decode cX10_cheapest 28 = .ok (.istore 5, 2) := by decide +kernel
theorem dX10_cheapest_30 : decode cX10_cheapest 30 = .ok (.iconst 0, 1) := by decide +kernel
theorem dX10_cheapest_31 : decode cX10_cheapest 31 = .ok (.istore 6, 2) := by decide +kernel
theorem dX10_cheapest_33 : decode cX10_cheapest 33 = .ok (.iload 6, 2) := by decide +kernel
theorem dX10_cheapest_35 : decode cX10_cheapest 35 = .ok (.aload_n 0, 1) := by decide +kernel
theorem dX10_cheapest_36 : decode cX10_cheapest 36 = .ok (.getfield 48, 3) := by decide +kernel
theorem dX10_cheapest_39 : decode cX10_cheapest 39 = .ok (.if_icmp .ge 35, 3) := by decide +kernel
theorem dX10_cheapest_42 : decode cX10_cheapest 42 = .ok (.iload 5, 2) := by decide +kernel
theorem dX10_cheapest_44 : decode cX10_cheapest 44 = .ok (.iload 4, 2) := by decide +kernel
theorem dX10_cheapest_46 : decode cX10_cheapest 46 = .ok (.iload 6, 2) := by decide +kernel
theorem dX10_cheapest_48 : decode cX10_cheapest 48 = .ok (.invokestatic 70, 3) := by decide +kernel
theorem dX10_cheapest_51 : decode cX10_cheapest 51 = .ok (.ifCond .eq 13, 3) := by decide +kernel
theorem dX10_cheapest_54 : decode cX10_cheapest 54 = .ok (.aload_n 0, 1) := by decide +kernel
theorem dX10_cheapest_55 : decode cX10_cheapest 55 = .ok (.getfield 16, 3) := by decide +kernel
theorem dX10_cheapest_58 : decode cX10_cheapest 58 = .ok (.iload 6, 2) := by decide +kernel
theorem dX10_cheapest_60 : decode cX10_cheapest 60 = .ok (.iaload, 1) := by decide +kernel
theorem dX10_cheapest_61 : decode cX10_cheapest 61 = .ok (.goto 4, 3) := by decide +kernel
theorem dX10_cheapest_64 : decode cX10_cheapest 64 = .ok (.iconst 0, 1) := by decide +kernel
theorem dX10_cheapest_65 : decode cX10_cheapest 65 = .ok (.iadd, 1) := by decide +kernel
theorem dX10_cheapest_66 : decode cX10_cheapest 66 = .ok (.istore 5, 2) := by decide +kernel
theorem dX10_cheapest_68 : decode cX10_cheapest 68 = .ok (.iinc 6 1, 3) := by decide +kernel
theorem dX10_cheapest_71 : decode cX10_cheapest 71 = .ok (.goto (-38), 3) := by decide +kernel
theorem dX10_cheapest_74 : decode cX10_cheapest 74 = .ok (.iload 5, 2) := by decide +kernel
theorem dX10_cheapest_76 : decode cX10_cheapest 76 = .ok (.iload_n 3, 1) := by decide +kernel
theorem dX10_cheapest_77 : decode cX10_cheapest 77 = .ok (.if_icmp .ge 22, 3) := by decide +kernel
theorem dX10_cheapest_80 : decode cX10_cheapest 80 = .ok (.aload_n 0, 1) := by decide +kernel
theorem dX10_cheapest_81 : decode cX10_cheapest 81 = .ok (.iload_n 1, 1) := by decide +kernel
theorem dX10_cheapest_82 : decode cX10_cheapest 82 = .ok (.iload 4, 2) := by decide +kernel
theorem dX10_cheapest_84 : decode cX10_cheapest 84 = .ok (.invokevirtual 117, 3) := by decide +kernel
theorem dX10_cheapest_87 : decode cX10_cheapest 87 = .ok (.ifCond .ne 6, 3) := by decide +kernel
theorem dX10_cheapest_90 : decode cX10_cheapest 90 = .ok (.goto 9, 3) := by decide +kernel
theorem dX10_cheapest_93 : decode cX10_cheapest 93 = .ok (.iload 5, 2) := by decide +kernel
theorem dX10_cheapest_95 : decode cX10_cheapest 95 = .ok (.istore_n 3, 1) := by decide +kernel
theorem dX10_cheapest_96 : decode cX10_cheapest 96 = .ok (.iload 4, 2) := by decide +kernel
theorem dX10_cheapest_98 : decode cX10_cheapest 98 = .ok (.istore_n 2, 1) := by decide +kernel
theorem dX10_cheapest_99 : decode cX10_cheapest 99 = .ok (.iinc 4 1, 3) := by decide +kernel
theorem dX10_cheapest_102 : decode cX10_cheapest 102 = .ok (.goto (-84), 3) := by decide +kernel
theorem dX10_cheapest_105 : decode cX10_cheapest 105 = .ok (.iload_n 2, 1) := by decide +kernel
theorem dX10_cheapest_106 : decode cX10_cheapest 106 = .ok (.ireturn, 1) := by decide +kernel
theorem dX10_pared_0 : decode cX10_pared 0 = .ok (.iload_n 1, 1) := by decide +kernel
theorem dX10_pared_1 : decode cX10_pared 1 = .ok (.invokestatic 95, 3) := by decide +kernel
theorem dX10_pared_4 : decode cX10_pared 4 = .ok (.ifCond .ne 6, 3) := by decide +kernel
theorem dX10_pared_7 : decode cX10_pared 7 = .ok (.bipush (-2), 2) := by decide +kernel
theorem dX10_pared_9 : decode cX10_pared 9 = .ok (.ireturn, 1) := by decide +kernel
theorem dX10_pared_10 : decode cX10_pared 10 = .ok (.aload_n 0, 1) := by decide +kernel
theorem dX10_pared_11 : decode cX10_pared 11 = .ok (.invokevirtual 87, 3) := by decide +kernel
theorem dX10_pared_14 : decode cX10_pared 14 = .ok (.istore_n 2, 1) := by decide +kernel
theorem dX10_pared_15 : decode cX10_pared 15 = .ok (.aload_n 0, 1) := by decide +kernel
theorem dX10_pared_16 : decode cX10_pared 16 = .ok (.getfield 48, 3) := by decide +kernel
theorem dX10_pared_19 : decode cX10_pared 19 = .ok (.iconst 1, 1) := by decide +kernel
theorem dX10_pared_20 : decode cX10_pared 20 = .ok (.isub, 1) := by decide +kernel
theorem dX10_pared_21 : decode cX10_pared 21 = .ok (.istore_n 3, 1) := by decide +kernel
theorem dX10_pared_22 : decode cX10_pared 22 = .ok (.iload_n 3, 1) := by decide +kernel
theorem dX10_pared_23 : decode cX10_pared 23 = .ok (.ifCond .lt 32, 3) := by decide +kernel
theorem dX10_pared_26 : decode cX10_pared 26 = .ok (.aload_n 0, 1) := by decide +kernel
theorem dX10_pared_27 : decode cX10_pared 27 = .ok (.iload_n 1, 1) := by decide +kernel
theorem dX10_pared_28 : decode cX10_pared 28 = .ok (.iload_n 2, 1) := by decide +kernel
theorem dX10_pared_29 : decode cX10_pared 29 = .ok (.iconst 1, 1) := by decide +kernel
theorem dX10_pared_30 : decode cX10_pared 30 = .ok (.iload_n 3, 1) := by decide +kernel
theorem dX10_pared_31 : decode cX10_pared 31 = .ok (.ishl, 1) := by decide +kernel
theorem dX10_pared_32 : decode cX10_pared 32 = .ok (.iconst (-1), 1) := by decide +kernel
theorem dX10_pared_33 : decode cX10_pared 33 = .ok (.ixor, 1) := by decide +kernel
theorem dX10_pared_34 : decode cX10_pared 34 = .ok (.iand, 1) := by decide +kernel
theorem dX10_pared_35 : decode cX10_pared 35 = .ok (.invokevirtual 117, 3) := by decide +kernel
theorem dX10_pared_38 : decode cX10_pared 38 = .ok (.ifCond .eq 11, 3) := by decide +kernel
theorem dX10_pared_41 : decode cX10_pared 41 = .ok (.iload_n 2, 1) := by decide +kernel
theorem dX10_pared_42 : decode cX10_pared 42 = .ok (.iconst 1, 1) := by decide +kernel
theorem dX10_pared_43 : decode cX10_pared 43 = .ok (.iload_n 3, 1) := by decide +kernel
theorem dX10_pared_44 : decode cX10_pared 44 = .ok (.ishl, 1) := by decide +kernel
theorem dX10_pared_45 : decode cX10_pared 45 = .ok (.iconst (-1), 1) := by decide +kernel
theorem dX10_pared_46 : decode cX10_pared 46 = .ok (.ixor, 1) := by decide +kernel
theorem dX10_pared_47 : decode cX10_pared 47 = .ok (.iand, 1) := by decide +kernel
theorem dX10_pared_48 : decode cX10_pared 48 = .ok (.istore_n 2, 1) := by decide +kernel
theorem dX10_pared_49 : decode cX10_pared 49 = .ok (.iinc 3 (-1), 3) := by decide +kernel
theorem dX10_pared_52 : decode cX10_pared 52 = .ok (.goto (-30), 3) := by decide +kernel
theorem dX10_pared_55 : decode cX10_pared 55 = .ok (.iload_n 2, 1) := by decide +kernel
theorem dX10_pared_56 : decode cX10_pared 56 = .ok (.ireturn, 1) := by decide +kernel
theorem dX10_burns_0 : decode cX10_burns 0 = .ok (.aload_n 0, 1) := by decide +kernel
theorem dX10_burns_1 : decode cX10_burns 1 = .ok (.bipush 8, 2) := by decide +kernel
theorem dX10_burns_3 : decode cX10_burns 3 = .ok (.invokevirtual 84, 3) := by decide +kernel
theorem dX10_burns_6 : decode cX10_burns 6 = .ok (.ifCond .eq 4, 3) := by decide +kernel
theorem dX10_burns_9 : decode cX10_burns 9 = .ok (.return_, 1) := by decide +kernel
theorem dX10_burns_10 : decode cX10_burns 10 = .ok (.aload_n 0, 1) := by decide +kernel
theorem dX10_burns_11 : decode cX10_burns 11 = .ok (.invokevirtual 87, 3) := by decide +kernel
theorem dX10_burns_14 : decode cX10_burns 14 = .ok (.istore_n 1, 1) := by decide +kernel
theorem dX10_burns_15 : decode cX10_burns 15 = .ok (.iload_n 1, 1) := by decide +kernel
theorem dX10_burns_16 : decode cX10_burns 16 = .ok (.ifCond .lt 124, 3) := by decide +kernel
theorem dX10_burns_19 : decode cX10_burns 19 = .ok (.iload_n 1, 1) := by decide +kernel
theorem dX10_burns_20 : decode cX10_burns 20 = .ok (.aload_n 0, 1) := by decide +kernel
theorem dX10_burns_21 : decode cX10_burns 21 = .ok (.iload_n 1, 1) := by decide +kernel
theorem dX10_burns_22 : decode cX10_burns 22 = .ok (.invokevirtual 74, 3) := by decide +kernel
theorem dX10_burns_25 : decode cX10_burns 25 = .ok (.ior, 1) := by decide +kernel
theorem dX10_burns_26 : decode cX10_burns 26 = .ok (.istore_n 2, 1) := by decide +kernel
theorem dX10_burns_27 : decode cX10_burns 27 = .ok (.iload_n 1, 1) := by decide +kernel
theorem dX10_burns_28 : decode cX10_burns 28 = .ok (.aload_n 0, 1) := by decide +kernel
theorem dX10_burns_29 : decode cX10_burns 29 = .ok (.invokevirtual 87, 3) := by decide +kernel
theorem dX10_burns_32 : decode cX10_burns 32 = .ok (.if_icmp .ne 13, 3) := by decide +kernel
theorem dX10_burns_35 : decode cX10_burns 35 = .ok (.aload_n 0, 1) := by decide +kernel
theorem dX10_burns_36 : decode cX10_burns 36 = .ok (.getfield 35, 3) := by decide +kernel
theorem dX10_burns_39 : decode cX10_burns 39 = .ok (.iload_n 1, 1) := by decide +kernel
theorem dX10_burns_40 : decode cX10_burns 40 = .ok (.iconst 0, 1) := by decide +kernel
theorem dX10_burns_41 : decode cX10_burns 41 = .ok (.iastore, 1) := by decide +kernel
theorem dX10_burns_42 : decode cX10_burns 42 = .ok (.goto 92, 3) := by decide +kernel
theorem dX10_burns_45 : decode cX10_burns 45 = .ok (.iload_n 2, 1) := by decide +kernel
theorem dX10_burns_46 : decode cX10_burns 46 = .ok (.aload_n 0, 1) := by decide +kernel
theorem dX10_burns_47 : decode cX10_burns 47 = .ok (.invokevirtual 87, 3) := by decide +kernel
theorem dX10_burns_50 : decode cX10_burns 50 = .ok (.if_icmp .ne 13, 3) := by decide +kernel
theorem dX10_burns_53 : decode cX10_burns 53 = .ok (.aload_n 0, 1) := by decide +kernel
theorem dX10_burns_54 : decode cX10_burns 54 = .ok (.getfield 35, 3) := by decide +kernel
theorem dX10_burns_57 : decode cX10_burns 57 = .ok (.iload_n 1, 1) := by decide +kernel
theorem dX10_burns_58 : decode cX10_burns 58 = .ok (.iconst 1, 1) := by decide +kernel
theorem dX10_burns_59 : decode cX10_burns 59 = .ok (.iastore, 1) := by decide +kernel
theorem dX10_burns_60 : decode cX10_burns 60 = .ok (.goto 74, 3) := by decide +kernel
theorem dX10_burns_63 : decode cX10_burns 63 = .ok (.aload_n 0, 1) := by decide +kernel
theorem dX10_burns_64 : decode cX10_burns 64 = .ok (.getfield 35, 3) := by decide +kernel
theorem dX10_burns_67 : decode cX10_burns 67 = .ok (.iload_n 1, 1) := by decide +kernel
theorem dX10_burns_68 : decode cX10_burns 68 = .ok (.ldc 123, 2) := by decide +kernel
theorem dX10_burns_70 : decode cX10_burns 70 = .ok (.iastore, 1) := by decide +kernel
theorem dX10_burns_71 : decode cX10_burns 71 = .ok (.iconst 0, 1) := by decide +kernel
theorem dX10_burns_72 : decode cX10_burns 72 = .ok (.istore_n 3, 1) := by decide +kernel
theorem dX10_burns_73 : decode cX10_burns 73 = .ok (.iload_n 3, 1) := by decide +kernel
theorem dX10_burns_74 : decode cX10_burns 74 = .ok (.aload_n 0, 1) := by decide +kernel
theorem dX10_burns_75 : decode cX10_burns 75 = .ok (.getfield 48, 3) := by decide +kernel
theorem dX10_burns_78 : decode cX10_burns 78 = .ok (.if_icmp .ge 56, 3) := by decide +kernel
theorem dX10_burns_81 : decode cX10_burns 81 = .ok (.iload_n 2, 1) := by decide +kernel
theorem dX10_burns_82 : decode cX10_burns 82 = .ok (.iload_n 3, 1) := by decide +kernel
theorem dX10_burns_83 : decode cX10_burns 83 = .ok (.invokestatic 70, 3) := by decide +kernel
theorem dX10_burns_86 : decode cX10_burns 86 = .ok (.ifCond .ne 42, 3) := by decide +kernel
theorem dX10_burns_89 : decode cX10_burns 89 = .ok (.iconst 1, 1) := by decide +kernel
theorem dX10_burns_90 : decode cX10_burns 90 = .ok (.aload_n 0, 1) := by decide +kernel
theorem dX10_burns_91 : decode cX10_burns 91 = .ok (.getfield 35, 3) := by decide +kernel
theorem dX10_burns_94 : decode cX10_burns 94 = .ok (.iload_n 2, 1) := by decide +kernel
theorem dX10_burns_95 : decode cX10_burns 95 = .ok (.iconst 1, 1) := by decide +kernel
theorem dX10_burns_96 : decode cX10_burns 96 = .ok (.iload_n 3, 1) := by decide +kernel
theorem dX10_burns_97 : decode cX10_burns 97 = .ok (.ishl, 1) := by decide +kernel
theorem dX10_burns_98 : decode cX10_burns 98 = .ok (.ior, 1) := by decide +kernel
theorem dX10_burns_99 : decode cX10_burns 99 = .ok (.iaload, 1) := by decide +kernel
theorem dX10_burns_100 : decode cX10_burns 100 = .ok (.iadd, 1) := by decide +kernel
theorem dX10_burns_101 : decode cX10_burns 101 = .ok (.aload_n 0, 1) := by decide +kernel
theorem dX10_burns_102 : decode cX10_burns 102 = .ok (.getfield 35, 3) := by decide +kernel
theorem dX10_burns_105 : decode cX10_burns 105 = .ok (.iload_n 1, 1) := by decide +kernel
theorem dX10_burns_106 : decode cX10_burns 106 = .ok (.iaload, 1) := by decide +kernel
theorem dX10_burns_107 : decode cX10_burns 107 = .ok (.if_icmp .ge 21, 3) := by decide +kernel
theorem dX10_burns_110 : decode cX10_burns 110 = .ok (.aload_n 0, 1) := by decide +kernel
theorem dX10_burns_111 : decode cX10_burns 111 = .ok (.getfield 35, 3) := by decide +kernel
theorem dX10_burns_114 : decode cX10_burns 114 = .ok (.iload_n 1, 1) := by decide +kernel
theorem dX10_burns_115 : decode cX10_burns 115 = .ok (.iconst 1, 1) := by decide +kernel
theorem dX10_burns_116 : decode cX10_burns 116 = .ok (.aload_n 0, 1) := by decide +kernel
theorem dX10_burns_117 : decode cX10_burns 117 = .ok (.getfield 35, 3) := by decide +kernel
theorem dX10_burns_120 : decode cX10_burns 120 = .ok (.iload_n 2, 1) := by decide +kernel
theorem dX10_burns_121 : decode cX10_burns 121 = .ok (.iconst 1, 1) := by decide +kernel
theorem dX10_burns_122 : decode cX10_burns 122 = .ok (.iload_n 3, 1) := by decide +kernel
theorem dX10_burns_123 : decode cX10_burns 123 = .ok (.ishl, 1) := by decide +kernel
theorem dX10_burns_124 : decode cX10_burns 124 = .ok (.ior, 1) := by decide +kernel
theorem dX10_burns_125 : decode cX10_burns 125 = .ok (.iaload, 1) := by decide +kernel
theorem dX10_burns_126 : decode cX10_burns 126 = .ok (.iadd, 1) := by decide +kernel
theorem dX10_burns_127 : decode cX10_burns 127 = .ok (.iastore, 1) := by decide +kernel
theorem dX10_burns_128 : decode cX10_burns 128 = .ok (.iinc 3 1, 3) := by decide +kernel
theorem dX10_burns_131 : decode cX10_burns 131 = .ok (.goto (-58), 3) := by decide +kernel
theorem dX10_burns_134 : decode cX10_burns 134 = .ok (.iinc 1 (-1), 3) := by decide +kernel
theorem dX10_burns_137 : decode cX10_burns 137 = .ok (.goto (-122), 3) := by decide +kernel
theorem dX10_burns_140 : decode cX10_burns 140 = .ok (.return_, 1) := by decide +kernel
theorem dX10_burn_0 : decode cX10_burn 0 = .ok (.aload_n 0, 1) := by decide +kernel
