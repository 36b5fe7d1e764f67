theorem dX10_burn_1 : decode cX10_burn 1 = .ok (.invokevirtual 124, 3) := by decide +kernel
theorem dX10_burn_4 : decode cX10_burn 4 = .ok (.aload_n 0, 1) := by decide +kernel
theorem dX10_burn_5 : decode cX10_burn 5 = .ok (.getfield 35, 3) := by decide +kernel
theorem dX10_burn_8 : decode cX10_burn 8 = .ok (.iconst 0, 1) := by decide +kernel
theorem dX10_burn_9 : decode cX10_burn 9 = .ok (.iaload, 1) := by decide +kernel
theorem dX10_burn_10 : decode cX10_burn 10 = .ok (.ireturn, 1) := by decide +kernel
theorem dX10_hand_0 : decode cX10_hand 0 = .ok (.aload_n 0, 1) := by decide +kernel
theorem dX10_hand_1 : decode cX10_hand 1 = .ok (.invokevirtual 124, 3) := by decide +kernel
theorem dX10_hand_4 : decode cX10_hand 4 = .ok (.iconst 0, 1) := by decide +kernel
theorem dX10_hand_5 : decode cX10_hand 5 = .ok (.istore_n 2, 1) := by decide +kernel
theorem dX10_hand_6 : decode cX10_hand 6 = .ok (.iconst 0, 1) := by decide +kernel
theorem dX10_hand_7 : decode cX10_hand 7 = .ok (.istore_n 3, 1) := by decide +kernel
theorem dX10_hand_8 : decode cX10_hand 8 = .ok (.iload_n 2, 1) := by decide +kernel
theorem dX10_hand_9 : decode cX10_hand 9 = .ok (.aload_n 0, 1) := by decide +kernel
theorem dX10_hand_10 : decode cX10_hand 10 = .ok (.invokevirtual 87, 3) := by decide +kernel
theorem dX10_hand_13 : decode cX10_hand 13 = .ok (.if_icmp .eq 87, 3) := by decide +kernel
theorem dX10_hand_16 : decode cX10_hand 16 = .ok (.iload_n 2, 1) := by decide +kernel
theorem dX10_hand_17 : decode cX10_hand 17 = .ok (.aload_n 0, 1) := by decide +kernel
theorem dX10_hand_18 : decode cX10_hand 18 = .ok (.iload_n 2, 1) := by decide +kernel
theorem dX10_hand_19 : decode cX10_hand 19 = .ok (.invokevirtual 74, 3) := by decide +kernel
theorem dX10_hand_22 : decode cX10_hand 22 = .ok (.ior, 1) := by decide +kernel
theorem dX10_hand_23 : decode cX10_hand 23 = .ok (.istore 4, 2) := by decide +kernel
theorem dX10_hand_25 : decode cX10_hand 25 = .ok (.iload 4, 2) := by decide +kernel
theorem dX10_hand_27 : decode cX10_hand 27 = .ok (.aload_n 0, 1) := by decide +kernel
theorem dX10_hand_28 : decode cX10_hand 28 = .ok (.invokevirtual 87, 3) := by decide +kernel
theorem dX10_hand_31 : decode cX10_hand 31 = .ok (.if_icmp .ne 5, 3) := by decide +kernel
theorem dX10_hand_34 : decode cX10_hand 34 = .ok (.iconst (-1), 1) := by decide +kernel
theorem dX10_hand_35 : decode cX10_hand 35 = .ok (.ireturn, 1) := by decide +kernel
theorem dX10_hand_36 : decode cX10_hand 36 = .ok (.iconst 0, 1) := by decide +kernel
theorem dX10_hand_37 : decode cX10_hand 37 = .ok (.istore 5, 2) := by decide +kernel
theorem dX10_hand_39 : decode cX10_hand 39 = .ok (.iload 4, 2) := by decide +kernel
theorem dX10_hand_41 : decode cX10_hand 41 = .ok (.iload 5, 2) := by decide +kernel
theorem dX10_hand_43 : decode cX10_hand 43 = .ok (.invokestatic 70, 3) := by decide +kernel
theorem dX10_hand_46 : decode cX10_hand 46 = .ok (.ifCond .ne 26, 3) := by decide +kernel
theorem dX10_hand_49 : decode cX10_hand 49 = .ok (.iconst 1, 1) := by decide +kernel
theorem dX10_hand_50 : decode cX10_hand 50 = .ok (.aload_n 0, 1) := by decide +kernel
theorem dX10_hand_51 : decode cX10_hand 51 = .ok (.getfield 35, 3) := by decide +kernel
theorem dX10_hand_54 : decode cX10_hand 54 = .ok (.iload 4, 2) := by decide +kernel
theorem dX10_hand_56 : decode cX10_hand 56 = .ok (.iconst 1, 1) := by decide +kernel
theorem dX10_hand_57 : decode cX10_hand 57 = .ok (.iload 5, 2) := by decide +kernel
theorem dX10_hand_59 : decode cX10_hand 59 = .ok (.ishl, 1) := by decide +kernel
theorem dX10_hand_60 : decode cX10_hand 60 = .ok (.ior, 1) := by decide +kernel
theorem dX10_hand_61 : decode cX10_hand 61 = .ok (.iaload, 1) := by decide +kernel
theorem dX10_hand_62 : decode cX10_hand 62 = .ok (.iadd, 1) := by decide +kernel
theorem dX10_hand_63 : decode cX10_hand 63 = .ok (.aload_n 0, 1) := by decide +kernel
theorem dX10_hand_64 : decode cX10_hand 64 = .ok (.getfield 35, 3) := by decide +kernel
theorem dX10_hand_67 : decode cX10_hand 67 = .ok (.iload_n 2, 1) := by decide +kernel
theorem dX10_hand_68 : decode cX10_hand 68 = .ok (.iaload, 1) := by decide +kernel
theorem dX10_hand_69 : decode cX10_hand 69 = .ok (.if_icmp .eq 9, 3) := by decide +kernel
theorem dX10_hand_72 : decode cX10_hand 72 = .ok (.iinc 5 1, 3) := by decide +kernel
theorem dX10_hand_75 : decode cX10_hand 75 = .ok (.goto (-36), 3) := by decide +kernel
theorem dX10_hand_78 : decode cX10_hand 78 = .ok (.iload_n 3, 1) := by decide +kernel
theorem dX10_hand_79 : decode cX10_hand 79 = .ok (.iload_n 1, 1) := by decide +kernel
theorem dX10_hand_80 : decode cX10_hand 80 = .ok (.if_icmp .ne 6, 3) := by decide +kernel
theorem dX10_hand_83 : decode cX10_hand 83 = .ok (.iload 5, 2) := by decide +kernel
theorem dX10_hand_85 : decode cX10_hand 85 = .ok (.ireturn, 1) := by decide +kernel
theorem dX10_hand_86 : decode cX10_hand 86 = .ok (.iinc 3 1, 3) := by decide +kernel
theorem dX10_hand_89 : decode cX10_hand 89 = .ok (.iload 4, 2) := by decide +kernel
theorem dX10_hand_91 : decode cX10_hand 91 = .ok (.iconst 1, 1) := by decide +kernel
theorem dX10_hand_92 : decode cX10_hand 92 = .ok (.iload 5, 2) := by decide +kernel
theorem dX10_hand_94 : decode cX10_hand 94 = .ok (.ishl, 1) := by decide +kernel
theorem dX10_hand_95 : decode cX10_hand 95 = .ok (.ior, 1) := by decide +kernel
theorem dX10_hand_96 : decode cX10_hand 96 = .ok (.istore_n 2, 1) := by decide +kernel
theorem dX10_hand_97 : decode cX10_hand 97 = .ok (.goto (-89), 3) := by decide +kernel
theorem dX10_hand_100 : decode cX10_hand 100 = .ok (.iconst (-1), 1) := by decide +kernel
theorem dX10_hand_101 : decode cX10_hand 101 = .ok (.ireturn, 1) := by decide +kernel
theorem dX10_burnt_0 : decode cX10_burnt 0 = .ok (.lload_n 1, 1) := by decide +kernel
theorem dX10_burnt_1 : decode cX10_burnt 1 = .ok (.lconst 0, 1) := by decide +kernel
theorem dX10_burnt_2 : decode cX10_burnt 2 = .ok (.lcmp, 1) := by decide +kernel
theorem dX10_burnt_3 : decode cX10_burnt 3 = .ok (.ifCond .ge 6, 3) := by decide +kernel
theorem dX10_burnt_6 : decode cX10_burnt 6 = .ok (.bipush (-2), 2) := by decide +kernel
theorem dX10_burnt_8 : decode cX10_burnt 8 = .ok (.ireturn, 1) := by decide +kernel
theorem dX10_burnt_9 : decode cX10_burnt 9 = .ok (.lload_n 1, 1) := by decide +kernel
theorem dX10_burnt_10 : decode cX10_burnt 10 = .ok (.lstore_n 3, 1) := by decide +kernel
theorem dX10_burnt_11 : decode cX10_burnt 11 = .ok (.iconst 0, 1) := by decide +kernel
theorem dX10_burnt_12 : decode cX10_burnt 12 = .ok (.istore 5, 2) := by decide +kernel
theorem dX10_burnt_14 : decode cX10_burnt 14 = .ok (.iconst 0, 1) := by decide +kernel
theorem dX10_burnt_15 : decode cX10_burnt 15 = .ok (.istore 6, 2) := by decide +kernel
theorem dX10_burnt_17 : decode cX10_burnt 17 = .ok (.iload 5, 2) := by decide +kernel
theorem dX10_burnt_19 : decode cX10_burnt 19 = .ok (.aload_n 0, 1) := by decide +kernel
theorem dX10_burnt_20 : decode cX10_burnt 20 = .ok (.invokevirtual 87, 3) := by decide +kernel
theorem dX10_burnt_23 : decode cX10_burnt 23 = .ok (.if_icmp .eq 101, 3) := by decide +kernel
theorem dX10_burnt_26 : decode cX10_burnt 26 = .ok (.iinc 6 1, 3) := by decide +kernel
theorem dX10_burnt_29 : decode cX10_burnt 29 = .ok (.iload 5, 2) := by decide +kernel
theorem dX10_burnt_31 : decode cX10_burnt 31 = .ok (.istore 7, 2) := by decide +kernel
theorem dX10_burnt_33 : decode cX10_burnt 33 = .ok (.iload 5, 2) := by decide +kernel
theorem dX10_burnt_35 : decode cX10_burnt 35 = .ok (.aload_n 0, 1) := by decide +kernel
theorem dX10_burnt_36 : decode cX10_burnt 36 = .ok (.iload 5, 2) := by decide +kernel
theorem dX10_burnt_38 : decode cX10_burnt 38 = .ok (.invokevirtual 74, 3) := by decide +kernel
theorem dX10_burnt_41 : decode cX10_burnt 41 = .ok (.ior, 1) := by decide +kernel
theorem dX10_burnt_42 : decode cX10_burnt 42 = .ok (.istore 5, 2) := by decide +kernel
theorem dX10_burnt_44 : decode cX10_burnt 44 = .ok (.iload 5, 2) := by decide +kernel
theorem dX10_burnt_46 : decode cX10_burnt 46 = .ok (.aload_n 0, 1) := by decide +kernel
theorem dX10_burnt_47 : decode cX10_burnt 47 = .ok (.invokevirtual 87, 3) := by decide +kernel
theorem dX10_burnt_50 : decode cX10_burnt 50 = .ok (.if_icmp .ne 6, 3) := by decide +kernel
theorem dX10_burnt_53 : decode cX10_burnt 53 = .ok (.iload 6, 2) := by decide +kernel
theorem dX10_burnt_55 : decode cX10_burnt 55 = .ok (.ireturn, 1) := by decide +kernel
theorem dX10_burnt_56 : decode cX10_burnt 56 = .ok (.lload_n 3, 1) := by decide +kernel
theorem dX10_burnt_57 : decode cX10_burnt 57 = .ok (.lconst 0, 1) := by decide +kernel
theorem dX10_burnt_58 : decode cX10_burnt 58 = .ok (.lcmp, 1) := by decide +kernel
theorem dX10_burnt_59 : decode cX10_burnt 59 = .ok (.ifCond .le 53, 3) := by decide +kernel
theorem dX10_burnt_62 : decode cX10_burnt 62 = .ok (.lload_n 3, 1) := by decide +kernel
theorem dX10_burnt_63 : decode cX10_burnt 63 = .ok (.ldc2_w 127, 3) := by decide +kernel
theorem dX10_burnt_66 : decode cX10_burnt 66 = .ok (.lrem, 1) := by decide +kernel
theorem dX10_burnt_67 : decode cX10_burnt 67 = .ok (.l2i, 1) := by decide +kernel
theorem dX10_burnt_68 : decode cX10_burnt 68 = .ok (.iconst 1, 1) := by decide +kernel
theorem dX10_burnt_69 : decode cX10_burnt 69 = .ok (.isub, 1) := by decide +kernel
theorem dX10_burnt_70 : decode cX10_burnt 70 = .ok (.istore 8, 2) := by decide +kernel
theorem dX10_burnt_72 : decode cX10_burnt 72 = .ok (.lload_n 3, 1) := by decide +kernel
theorem dX10_burnt_73 : decode cX10_burnt 73 = .ok (.ldc2_w 127, 3) := by decide +kernel
theorem dX10_burnt_76 : decode cX10_burnt 76 = .ok (.ldiv, 1) := by decide +kernel
theorem dX10_burnt_77 : decode cX10_burnt 77 = .ok (.lstore_n 3, 1) := by decide +kernel
theorem dX10_burnt_78 : decode cX10_burnt 78 = .ok (.aload_n 0, 1) := by decide +kernel
theorem dX10_burnt_79 : decode cX10_burnt 79 = .ok (.iload 8, 2) := by decide +kernel
theorem dX10_burnt_81 : decode cX10_burnt 81 = .ok (.invokevirtual 59, 3) := by decide +kernel
theorem dX10_burnt_84 : decode cX10_burnt 84 = .ok (.ifCond .eq 13, 3) := by decide +kernel
theorem dX10_burnt_87 : decode cX10_burnt 87 = .ok (.iload 5, 2) := by decide +kernel
theorem dX10_burnt_89 : decode cX10_burnt 89 = .ok (.iload 8, 2) := by decide +kernel
theorem dX10_burnt_91 : decode cX10_burnt 91 = .ok (.invokestatic 70, 3) := by decide +kernel
theorem dX10_burnt_94 : decode cX10_burnt 94 = .ok (.ifCond .eq 6, 3) := by decide +kernel
theorem dX10_burnt_97 : decode cX10_burnt 97 = .ok (.bipush (-2), 2) := by decide +kernel
theorem dX10_burnt_99 : decode cX10_burnt 99 = .ok (.ireturn, 1) := by decide +kernel
theorem dX10_burnt_100 : decode cX10_burnt 100 = .ok (.iload 5, 2) := by decide +kernel
theorem dX10_burnt_102 : decode cX10_burnt 102 = .ok (.iconst 1, 1) := by decide +kernel
theorem dX10_burnt_103 : decode cX10_burnt 103 = .ok (.iload 8, 2) := by decide +kernel
theorem dX10_burnt_105 : decode cX10_burnt 105 = .ok (.ishl, 1) := by decide +kernel
theorem dX10_burnt_106 : decode cX10_burnt 106 = .ok (.ior, 1) := by decide +kernel
theorem dX10_burnt_107 : decode cX10_burnt 107 = .ok (.istore 5, 2) := by decide +kernel
theorem dX10_burnt_109 : decode cX10_burnt 109 = .ok (.goto 12, 3) := by decide +kernel
theorem dX10_burnt_112 : decode cX10_burnt 112 = .ok (.iload 5, 2) := by decide +kernel
theorem dX10_burnt_114 : decode cX10_burnt 114 = .ok (.iload 7, 2) := by decide +kernel
theorem dX10_burnt_116 : decode cX10_burnt 116 = .ok (.if_icmp .ne 5, 3) := by decide +kernel
theorem dX10_burnt_119 : decode cX10_burnt 119 = .ok (.iconst (-1), 1) := by decide +kernel
theorem dX10_burnt_120 : decode cX10_burnt 120 = .ok (.ireturn, 1) := by decide +kernel
theorem dX10_burnt_121 : decode cX10_burnt 121 = .ok (.goto (-104), 3) := by decide +kernel
theorem dX10_burnt_124 : decode cX10_burnt 124 = .ok (.iload 6, 2) := by decide +kernel
theorem dX10_burnt_126 : decode cX10_burnt 126 = .ok (.ireturn, 1) := by decide +kernel
theorem dX10_next_0 : decode cX10_next 0 = .ok (.iload_n 1, 1) := by decide +kernel
theorem dX10_next_1 : decode cX10_next 1 = .ok (.aload_n 0, 1) := by decide +kernel
theorem dX10_next_2 : decode cX10_next 2 = .ok (.iload_n 1, 1) := by decide +kernel
theorem dX10_next_3 : decode cX10_next 3 = .ok (.invokevirtual 74, 3) := by decide +kernel
theorem dX10_next_6 : decode cX10_next 6 = .ok (.iload_n 2, 1) := by decide +kernel
theorem dX10_next_7 : decode cX10_next 7 = .ok (.iconst (-1), 1) := by decide +kernel
theorem dX10_next_8 : decode cX10_next 8 = .ok (.ixor, 1) := by decide +kernel
theorem dX10_next_9 : decode cX10_next 9 = .ok (.iand, 1) := by decide +kernel
theorem dX10_next_10 : decode cX10_next 10 = .ok (.ior, 1) := by decide +kernel
theorem dX10_next_11 : decode cX10_next 11 = .ok (.ireturn, 1) := by decide +kernel
theorem dX10_behindWall_0 : decode cX10_behindWall 0 = .ok (.aload_n 0, 1) := by decide +kernel
theorem dX10_behindWall_1 : decode cX10_behindWall 1 = .ok (.iload_n 1, 1) := by decide +kernel
theorem dX10_behindWall_2 : decode cX10_behindWall 2 = .ok (.iload_n 2, 1) := by decide +kernel
theorem dX10_behindWall_3 : decode cX10_behindWall 3 = .ok (.invokevirtual 129, 3) := by decide +kernel
theorem dX10_behindWall_6 : decode cX10_behindWall 6 = .ok (.istore_n 3, 1) := by decide +kernel
theorem dX10_behindWall_7 : decode cX10_behindWall 7 = .ok (.iload_n 3, 1) := by decide +kernel
theorem dX10_behindWall_8 : decode cX10_behindWall 8 = .ok (.iload_n 1, 1) := by decide +kernel
theorem dX10_behindWall_9 : decode cX10_behindWall 9 = .ok (.if_icmp .ne 15, 3) := by decide +kernel
theorem dX10_behindWall_12 : decode cX10_behindWall 12 = .ok (.aload_n 0, 1) := by decide +kernel
theorem dX10_behindWall_13 : decode cX10_behindWall 13 = .ok (.getfield 48, 3) := by decide +kernel
theorem dX10_behindWall_16 : decode cX10_behindWall 16 = .ok (.iload_n 1, 1) := by decide +kernel
theorem dX10_behindWall_17 : decode cX10_behindWall 17 = .ok (.invokestatic 111, 3) := by decide +kernel
theorem dX10_behindWall_20 : decode cX10_behindWall 20 = .ok (.isub, 1) := by decide +kernel
theorem dX10_behindWall_21 : decode cX10_behindWall 21 = .ok (.goto 15, 3) := by decide +kernel
theorem dX10_behindWall_24 : decode cX10_behindWall 24 = .ok (.aload_n 0, 1) := by decide +kernel
theorem dX10_behindWall_25 : decode cX10_behindWall 25 = .ok (.getfield 39, 3) := by decide +kernel
theorem dX10_behindWall_28 : decode cX10_behindWall 28 = .ok (.sipush 1024, 3) := by decide +kernel
theorem dX10_behindWall_31 : decode cX10_behindWall 31 = .ok (.iload_n 3, 1) := by decide +kernel
theorem dX10_behindWall_32 : decode cX10_behindWall 32 = .ok (.imul, 1) := by decide +kernel
theorem dX10_behindWall_33 : decode cX10_behindWall 33 = .ok (.iload_n 2, 1) := by decide +kernel
theorem dX10_behindWall_34 : decode cX10_behindWall 34 = .ok (.iadd, 1) := by decide +kernel
theorem dX10_behindWall_35 : decode cX10_behindWall 35 = .ok (.iaload, 1) := by decide +kernel
theorem dX10_behindWall_36 : decode cX10_behindWall 36 = .ok (.ireturn, 1) := by decide +kernel
theorem dX10_saves_0 : decode cX10_saves 0 = .ok (.aload_n 0, 1) := by decide +kernel
theorem dX10_saves_1 : decode cX10_saves 1 = .ok (.bipush 9, 2) := by decide +kernel
theorem dX10_saves_3 : decode cX10_saves 3 = .ok (.invokevirtual 84, 3) := by decide +kernel
theorem dX10_saves_6 : decode cX10_saves 6 = .ok (.ifCond .eq 4, 3) := by decide +kernel
theorem dX10_saves_9 : decode cX10_saves 9 = .ok (.return_, 1) := by decide +kernel
theorem dX10_saves_10 : decode cX10_saves 10 = .ok (.aload_n 0, 1) := by decide +kernel
theorem dX10_saves_11 : decode cX10_saves 11 = .ok (.invokevirtual 87, 3) := by decide +kernel
theorem dX10_saves_14 : decode cX10_saves 14 = .ok (.istore_n 1, 1) := by decide +kernel
theorem dX10_saves_15 : decode cX10_saves 15 = .ok (.iload_n 1, 1) := by decide +kernel
theorem dX10_saves_16 : decode cX10_saves 16 = .ok (.ifCond .lt 123, 3) := by decide +kernel
theorem dX10_saves_19 : decode cX10_saves 19 = .ok (.iconst 0, 1) := by decide +kernel
theorem dX10_saves_20 : decode cX10_saves 20 = .ok (.istore_n 2, 1) := by decide +kernel
theorem dX10_saves_21 : decode cX10_saves 21 = .ok (.iload_n 2, 1) := by decide +kernel
theorem dX10_saves_22 : decode cX10_saves 22 = .ok (.aload_n 0, 1) := by decide +kernel
theorem dX10_saves_23 : decode cX10_saves 23 = .ok (.invokevirtual 87, 3) := by decide +kernel
theorem dX10_saves_26 : decode cX10_saves 26 = .ok (.if_icmp .gt 107, 3) := by decide +kernel
theorem dX10_saves_29 : decode cX10_saves 29 = .ok (.iload_n 2, 1) := by decide +kernel
theorem dX10_saves_30 : decode cX10_saves 30 = .ok (.iload_n 1, 1) := by decide +kernel
theorem dX10_saves_31 : decode cX10_saves 31 = .ok (.iand, 1) := by decide +kernel
theorem dX10_saves_32 : decode cX10_saves 32 = .ok (.ifCond .eq 6, 3) := by decide +kernel
theorem dX10_saves_35 : decode cX10_saves 35 = .ok (.goto 92, 3) := by decide +kernel
theorem dX10_saves_38 : decode cX10_saves 38 = .ok (.iconst (-1), 1) := by decide +kernel
theorem dX10_saves_39 : decode cX10_saves 39 = .ok (.istore_n 3, 1) := by decide +kernel
theorem dX10_saves_40 : decode cX10_saves 40 = .ok (.iconst 0, 1) := by decide +kernel
theorem dX10_saves_41 : decode cX10_saves 41 = .ok (.istore 4, 2) := by decide +kernel
theorem dX10_saves_43 : decode cX10_saves 43 = .ok (.iload 4, 2) := by decide +kernel
theorem dX10_saves_45 : decode cX10_saves 45 = .ok (.aload_n 0, 1) := by decide +kernel
theorem dX10_saves_46 : decode cX10_saves 46 = .ok (.getfield 48, 3) := by decide +kernel
theorem dX10_saves_49 : decode cX10_saves 49 = .ok (.if_icmp .ge 49, 3) := by decide +kernel
theorem dX10_saves_52 : decode cX10_saves 52 = .ok (.iload_n 1, 1) := by decide +kernel
theorem dX10_saves_53 : decode cX10_saves 53 = .ok (.iload_n 2, 1) := by decide +kernel
theorem dX10_saves_54 : decode cX10_saves 54 = .ok (.ior, 1) := by decide +kernel
theorem dX10_saves_55 : decode cX10_saves 55 = .ok (.iload 4, 2) := by decide +kernel
theorem dX10_saves_57 : decode cX10_saves 57 = .ok (.invokestatic 70, 3) := by decide +kernel
theorem dX10_saves_60 : decode cX10_saves 60 = .ok (.ifCond .eq 6, 3) := by decide +kernel
theorem dX10_saves_63 : decode cX10_saves 63 = .ok (.goto 29, 3) := by decide +kernel
theorem dX10_saves_66 : decode cX10_saves 66 = .ok (.aload_n 0, 1) := by decide +kernel
theorem dX10_saves_67 : decode cX10_saves 67 = .ok (.iload_n 1, 1) := by decide +kernel
theorem dX10_saves_68 : decode cX10_saves 68 = .ok (.iload_n 2, 1) := by decide +kernel
theorem dX10_saves_69 : decode cX10_saves 69 = .ok (.iconst 1, 1) := by decide +kernel
theorem dX10_saves_70 : decode cX10_saves 70 = .ok (.iload 4, 2) := by decide +kernel
theorem dX10_saves_72 : decode cX10_saves 72 = .ok (.ishl, 1) := by decide +kernel
theorem dX10_saves_73 : decode cX10_saves 73 = .ok (.ior, 1) := by decide +kernel
theorem dX10_saves_74 : decode cX10_saves 74 = .ok (.invokevirtual 132, 3) := by decide +kernel
theorem dX10_saves_77 : decode cX10_saves 77 = .ok (.istore 5, 2) := by decide +kernel
theorem dX10_saves_79 : decode cX10_saves 79 = .ok (.iload 5, 2) := by decide +kernel
theorem dX10_saves_81 : decode cX10_saves 81 = .ok (.iload_n 3, 1) := by decide +kernel
theorem dX10_saves_82 : decode cX10_saves 82 = .ok (.if_icmp .le 8, 3) := by decide +kernel
theorem dX10_saves_85 : decode cX10_saves 85 = .ok (.iload 5, 2) := by decide +kernel
theorem dX10_saves_87 : decode cX10_saves 87 = .ok (.goto 4, 3) := by decide +kernel
theorem dX10_saves_90 : decode cX10_saves 90 = .ok (.iload_n 3, 1) := by decide +kernel
theorem dX10_saves_91 : decode cX10_saves 91 = .ok (.istore_n 3, 1) := by decide +kernel
theorem dX10_saves_92 : decode cX10_saves 92 = .ok (.iinc 4 1, 3) := by decide +kernel
theorem dX10_saves_95 : decode cX10_saves 95 = .ok (.goto (-52), 3) := by decide +kernel
theorem dX10_saves_98 : decode cX10_saves 98 = .ok (.aload_n 0, 1) := by decide +kernel
theorem dX10_saves_99 : decode cX10_saves 99 = .ok (.getfield 39, 3) := by decide +kernel
theorem dX10_saves_102 : decode cX10_saves 102 = .ok (.sipush 1024, 3) := by decide +kernel
theorem dX10_saves_105 : decode cX10_saves 105 = .ok (.iload_n 1, 1) := by decide +kernel
theorem dX10_saves_106 : decode cX10_saves 106 = .ok (.imul, 1) := by decide +kernel
theorem dX10_saves_107 : decode cX10_saves 107 = .ok (.iload_n 2, 1) := by decide +kernel
theorem dX10_saves_108 : decode cX10_saves 108 = .ok (.iadd, 1) := by decide +kernel
theorem dX10_saves_109 : decode cX10_saves 109 = .ok (.iload_n 3, 1) := by decide +kernel
theorem dX10_saves_110 : decode cX10_saves 110 = .ok (.ifCond .ge 15, 3) := by decide +kernel
theorem dX10_saves_113 : decode cX10_saves 113 = .ok (.aload_n 0, 1) := by decide +kernel
theorem dX10_saves_114 : decode cX10_saves 114 = .ok (.getfield 48, 3) := by decide +kernel
theorem dX10_saves_117 : decode cX10_saves 117 = .ok (.iload_n 1, 1) := by decide +kernel
theorem dX10_saves_118 : decode cX10_saves 118 = .ok (.invokestatic 111, 3) := by decide +kernel
theorem dX10_saves_121 : decode cX10_saves 121 = .ok (.isub, 1) := by decide +kernel
theorem dX10_saves_122 : decode cX10_saves 122 = .ok (.goto 4, 3) := by decide +kernel
theorem dX10_saves_125 : decode cX10_saves 125 = .ok (.iload_n 3, 1) := by decide +kernel
theorem dX10_saves_126 : decode cX10_saves 126 = .ok (.iastore, 1) := by decide +kernel
theorem dX10_saves_127 : decode cX10_saves 127 = .ok (.iinc 2 1, 3) := by decide +kernel
theorem dX10_saves_130 : decode cX10_saves 130 = .ok (.goto (-109), 3) := by decide +kernel
theorem dX10_saves_133 : decode cX10_saves 133 = .ok (.iinc 1 (-1), 3) := by decide +kernel
theorem dX10_saves_136 : decode cX10_saves 136 = .ok (.goto (-121), 3) := by decide +kernel
theorem dX10_saves_139 : decode cX10_saves 139 = .ok (.return_, 1) := by decide +kernel
theorem dX10_save_0 : decode cX10_save 0 = .ok (.aload_n 0, 1) := by decide +kernel
theorem dX10_save_1 : decode cX10_save 1 = .ok (.iload_n 1, 1) := by decide +kernel
theorem dX10_save_2 : decode cX10_save 2 = .ok (.invokevirtual 98, 3) := by decide +kernel
theorem dX10_save_5 : decode cX10_save 5 = .ok (.ifCond .eq 12, 3) := by decide +kernel
theorem dX10_save_8 : decode cX10_save 8 = .ok (.aload_n 0, 1) := by decide +kernel
theorem dX10_save_9 : decode cX10_save 9 = .ok (.getfield 48, 3) := by decide +kernel
theorem dX10_save_12 : decode cX10_save 12 = .ok (.bipush 10, 2) := by decide +kernel
theorem dX10_save_14 : decode cX10_save 14 = .ok (.if_icmp .le 6, 3) := by decide +kernel
theorem dX10_save_17 : decode cX10_save 17 = .ok (.bipush (-2), 2) := by decide +kernel
theorem dX10_save_19 : decode cX10_save 19 = .ok (.ireturn, 1) := by decide +kernel
theorem dX10_save_20 : decode cX10_save 20 = .ok (.aload_n 0, 1) := by decide +kernel
theorem dX10_save_21 : decode cX10_save 21 = .ok (.invokevirtual 135, 3) := by decide +kernel
theorem dX10_save_24 : decode cX10_save 24 = .ok (.aload_n 0, 1) := by decide +kernel
theorem dX10_save_25 : decode cX10_save 25 = .ok (.getfield 39, 3) := by decide +kernel
theorem dX10_save_28 : decode cX10_save 28 = .ok (.sipush 1024, 3) := by decide +kernel
theorem dX10_save_31 : decode cX10_save 31 = .ok (.iload_n 1, 1) := by decide +kernel
theorem dX10_save_32 : decode cX10_save 32 = .ok (.imul, 1) := by decide +kernel
theorem dX10_save_33 : decode cX10_save 33 = .ok (.iaload, 1) := by decide +kernel
theorem dX10_save_34 : decode cX10_save 34 = .ok (.ireturn, 1) := by decide +kernel
theorem dX10_wall_0 : decode cX10_wall 0 = .ok (.aload_n 0, 1) := by decide +kernel
theorem dX10_wall_1 : decode cX10_wall 1 = .ok (.iload_n 1, 1) := by decide +kernel
theorem dX10_wall_2 : decode cX10_wall 2 = .ok (.invokevirtual 98, 3) := by decide +kernel
theorem dX10_wall_5 : decode cX10_wall 5 = .ok (.ifCond .eq 12, 3) := by decide +kernel
theorem dX10_wall_8 : decode cX10_wall 8 = .ok (.aload_n 0, 1) := by decide +kernel
theorem dX10_wall_9 : decode cX10_wall 9 = .ok (.getfield 48, 3) := by decide +kernel
theorem dX10_wall_12 : decode cX10_wall 12 = .ok (.bipush 10, 2) := by decide +kernel
theorem dX10_wall_14 : decode cX10_wall 14 = .ok (.if_icmp .le 6, 3) := by decide +kernel
theorem dX10_wall_17 : decode cX10_wall 17 = .ok (.bipush (-2), 2) := by decide +kernel
theorem dX10_wall_19 : decode cX10_wall 19 = .ok (.ireturn, 1) := by decide +kernel
theorem dX10_wall_20 : decode cX10_wall 20 = .ok (.aload_n 0, 1) := by decide +kernel
theorem dX10_wall_21 : decode cX10_wall 21 = .ok (.invokevirtual 135, 3) := by decide +kernel
theorem dX10_wall_24 : decode cX10_wall 24 = .ok (.iload_n 1, 1) := by decide +kernel
theorem dX10_wall_25 : decode cX10_wall 25 = .ok (.istore_n 3, 1) := by decide +kernel
theorem dX10_wall_26 : decode cX10_wall 26 = .ok (.iconst 0, 1) := by decide +kernel
theorem dX10_wall_27 : decode cX10_wall 27 = .ok (.istore 4, 2) := by decide +kernel
theorem dX10_wall_29 : decode cX10_wall 29 = .ok (.iconst 0, 1) := by decide +kernel
theorem dX10_wall_30 : decode cX10_wall 30 = .ok (.istore 5, 2) := by decide +kernel
theorem dX10_wall_32 : decode cX10_wall 32 = .ok (.iload_n 3, 1) := by decide +kernel
theorem dX10_wall_33 : decode cX10_wall 33 = .ok (.iload 4, 2) := by decide +kernel
theorem dX10_wall_35 : decode cX10_wall 35 = .ok (.ior, 1) := by decide +kernel
theorem dX10_wall_36 : decode cX10_wall 36 = .ok (.aload_n 0, 1) := by decide +kernel
theorem dX10_wall_37 : decode cX10_wall 37 = .ok (.invokevirtual 87, 3) := by decide +kernel
theorem dX10_wall_40 : decode cX10_wall 40 = .ok (.if_icmp .eq 96, 3) := by decide +kernel
theorem dX10_wall_43 : decode cX10_wall 43 = .ok (.iconst 0, 1) := by decide +kernel
theorem dX10_wall_44 : decode cX10_wall 44 = .ok (.istore 6, 2) := by decide +kernel
theorem dX10_wall_46 : decode cX10_wall 46 = .ok (.iload_n 3, 1) := by decide +kernel
theorem dX10_wall_47 : decode cX10_wall 47 = .ok (.iload 4, 2) := by decide +kernel
theorem dX10_wall_49 : decode cX10_wall 49 = .ok (.ior, 1) := by decide +kernel
theorem dX10_wall_50 : decode cX10_wall 50 = .ok (.iload 6, 2) := by decide +kernel
theorem dX10_wall_52 : decode cX10_wall 52 = .ok (.invokestatic 70, 3) := by decide +kernel
theorem dX10_wall_55 : decode cX10_wall 55 = .ok (.ifCond .ne 31, 3) := by decide +kernel
theorem dX10_wall_58 : decode cX10_wall 58 = .ok (.aload_n 0, 1) := by decide +kernel
theorem dX10_wall_59 : decode cX10_wall 59 = .ok (.iload_n 3, 1) := by decide +kernel
theorem dX10_wall_60 : decode cX10_wall 60 = .ok (.iload 4, 2) := by decide +kernel
theorem dX10_wall_62 : decode cX10_wall 62 = .ok (.iconst 1, 1) := by decide +kernel
theorem dX10_wall_63 : decode cX10_wall 63 = .ok (.iload 6, 2) := by decide +kernel
theorem dX10_wall_65 : decode cX10_wall 65 = .ok (.ishl, 1) := by decide +kernel
theorem dX10_wall_66 : decode cX10_wall 66 = .ok (.ior, 1) := by decide +kernel
theorem dX10_wall_67 : decode cX10_wall 67 = .ok (.invokevirtual 132, 3) := by decide +kernel
theorem dX10_wall_70 : decode cX10_wall 70 = .ok (.aload_n 0, 1) := by decide +kernel
theorem dX10_wall_71 : decode cX10_wall 71 = .ok (.getfield 39, 3) := by decide +kernel
theorem dX10_wall_74 : decode cX10_wall 74 = .ok (.sipush 1024, 3) := by decide +kernel
theorem dX10_wall_77 : decode cX10_wall 77 = .ok (.iload_n 3, 1) := by decide +kernel
theorem dX10_wall_78 : decode cX10_wall 78 = .ok (.imul, 1) := by decide +kernel
theorem dX10_wall_79 : decode cX10_wall 79 = .ok (.iload 4, 2) := by decide +kernel
theorem dX10_wall_81 : decode cX10_wall 81 = .ok (.iadd, 1) := by decide +kernel
theorem dX10_wall_82 : decode cX10_wall 82 = .ok (.iaload, 1) := by decide +kernel
theorem dX10_wall_83 : decode cX10_wall 83 = .ok (.if_icmp .eq 9, 3) := by decide +kernel
theorem dX10_wall_86 : decode cX10_wall 86 = .ok (.iinc 6 1, 3) := by decide +kernel
theorem dX10_wall_89 : decode cX10_wall 89 = .ok (.goto (-43), 3) := by decide +kernel
theorem dX10_wall_92 : decode cX10_wall 92 = .ok (.iload 5, 2) := by decide +kernel
theorem dX10_wall_94 : decode cX10_wall 94 = .ok (.iload_n 2, 1) := by decide +kernel
theorem dX10_wall_95 : decode cX10_wall 95 = .ok (.if_icmp .ne 6, 3) := by decide +kernel
theorem dX10_wall_98 : decode cX10_wall 98 = .ok (.iload 6, 2) := by decide +kernel
