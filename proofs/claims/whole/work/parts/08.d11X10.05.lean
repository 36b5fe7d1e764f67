theorem dX10_wall_100 : decode cX10_wall 100 = .ok (.ireturn, 1) := by decide +kernel
theorem dX10_wall_101 : decode cX10_wall 101 = .ok (.iinc 5 1, 3) := by decide +kernel
theorem dX10_wall_104 : decode cX10_wall 104 = .ok (.iload 4, 2) := by decide +kernel
theorem dX10_wall_106 : decode cX10_wall 106 = .ok (.iconst 1, 1) := by decide +kernel
theorem dX10_wall_107 : decode cX10_wall 107 = .ok (.iload 6, 2) := by decide +kernel
theorem dX10_wall_109 : decode cX10_wall 109 = .ok (.ishl, 1) := by decide +kernel
theorem dX10_wall_110 : decode cX10_wall 110 = .ok (.ior, 1) := by decide +kernel
theorem dX10_wall_111 : decode cX10_wall 111 = .ok (.istore 4, 2) := by decide +kernel
theorem dX10_wall_113 : decode cX10_wall 113 = .ok (.aload_n 0, 1) := by decide +kernel
theorem dX10_wall_114 : decode cX10_wall 114 = .ok (.iload_n 3, 1) := by decide +kernel
theorem dX10_wall_115 : decode cX10_wall 115 = .ok (.iload 4, 2) := by decide +kernel
theorem dX10_wall_117 : decode cX10_wall 117 = .ok (.invokevirtual 129, 3) := by decide +kernel
theorem dX10_wall_120 : decode cX10_wall 120 = .ok (.istore 7, 2) := by decide +kernel
theorem dX10_wall_122 : decode cX10_wall 122 = .ok (.iload 7, 2) := by decide +kernel
theorem dX10_wall_124 : decode cX10_wall 124 = .ok (.iload_n 3, 1) := by decide +kernel
theorem dX10_wall_125 : decode cX10_wall 125 = .ok (.if_icmp .ne 5, 3) := by decide +kernel
theorem dX10_wall_128 : decode cX10_wall 128 = .ok (.iconst (-1), 1) := by decide +kernel
theorem dX10_wall_129 : decode cX10_wall 129 = .ok (.ireturn, 1) := by decide +kernel
theorem dX10_wall_130 : decode cX10_wall 130 = .ok (.iload 7, 2) := by decide +kernel
theorem dX10_wall_132 : decode cX10_wall 132 = .ok (.istore_n 3, 1) := by decide +kernel
theorem dX10_wall_133 : decode cX10_wall 133 = .ok (.goto (-101), 3) := by decide +kernel
theorem dX10_wall_136 : decode cX10_wall 136 = .ok (.iconst (-1), 1) := by decide +kernel
theorem dX10_wall_137 : decode cX10_wall 137 = .ok (.ireturn, 1) := by decide +kernel
theorem dX10_answers_0 : decode cX10_answers 0 = .ok (.iconst 0, 1) := by decide +kernel
theorem dX10_answers_1 : decode cX10_answers 1 = .ok (.istore_n 3, 1) := by decide +kernel
theorem dX10_answers_2 : decode cX10_answers 2 = .ok (.iload_n 3, 1) := by decide +kernel
theorem dX10_answers_3 : decode cX10_answers 3 = .ok (.aload_n 0, 1) := by decide +kernel
theorem dX10_answers_4 : decode cX10_answers 4 = .ok (.getfield 48, 3) := by decide +kernel
theorem dX10_answers_7 : decode cX10_answers 7 = .ok (.if_icmp .ge 52, 3) := by decide +kernel
theorem dX10_answers_10 : decode cX10_answers 10 = .ok (.iload_n 1, 1) := by decide +kernel
theorem dX10_answers_11 : decode cX10_answers 11 = .ok (.iload_n 3, 1) := by decide +kernel
theorem dX10_answers_12 : decode cX10_answers 12 = .ok (.invokestatic 70, 3) := by decide +kernel
theorem dX10_answers_15 : decode cX10_answers 15 = .ok (.ifCond .eq 38, 3) := by decide +kernel
theorem dX10_answers_18 : decode cX10_answers 18 = .ok (.aload_n 0, 1) := by decide +kernel
theorem dX10_answers_19 : decode cX10_answers 19 = .ok (.getfield 7, 3) := by decide +kernel
theorem dX10_answers_22 : decode cX10_answers 22 = .ok (.bipush 12, 2) := by decide +kernel
theorem dX10_answers_24 : decode cX10_answers 24 = .ok (.iload_n 3, 1) := by decide +kernel
theorem dX10_answers_25 : decode cX10_answers 25 = .ok (.imul, 1) := by decide +kernel
theorem dX10_answers_26 : decode cX10_answers 26 = .ok (.iload_n 2, 1) := by decide +kernel
theorem dX10_answers_27 : decode cX10_answers 27 = .ok (.iadd, 1) := by decide +kernel
theorem dX10_answers_28 : decode cX10_answers 28 = .ok (.iaload, 1) := by decide +kernel
theorem dX10_answers_29 : decode cX10_answers 29 = .ok (.ifCond .le 24, 3) := by decide +kernel
theorem dX10_answers_32 : decode cX10_answers 32 = .ok (.aload_n 0, 1) := by decide +kernel
theorem dX10_answers_33 : decode cX10_answers 33 = .ok (.getfield 42, 3) := by decide +kernel
theorem dX10_answers_36 : decode cX10_answers 36 = .ok (.iload_n 1, 1) := by decide +kernel
theorem dX10_answers_37 : decode cX10_answers 37 = .ok (.iconst 1, 1) := by decide +kernel
theorem dX10_answers_38 : decode cX10_answers 38 = .ok (.iload_n 3, 1) := by decide +kernel
theorem dX10_answers_39 : decode cX10_answers 39 = .ok (.ishl, 1) := by decide +kernel
theorem dX10_answers_40 : decode cX10_answers 40 = .ok (.iconst (-1), 1) := by decide +kernel
theorem dX10_answers_41 : decode cX10_answers 41 = .ok (.ixor, 1) := by decide +kernel
theorem dX10_answers_42 : decode cX10_answers 42 = .ok (.iand, 1) := by decide +kernel
theorem dX10_answers_43 : decode cX10_answers 43 = .ok (.iconst 1, 1) := by decide +kernel
theorem dX10_answers_44 : decode cX10_answers 44 = .ok (.iload_n 2, 1) := by decide +kernel
theorem dX10_answers_45 : decode cX10_answers 45 = .ok (.ishl, 1) := by decide +kernel
theorem dX10_answers_46 : decode cX10_answers 46 = .ok (.ior, 1) := by decide +kernel
theorem dX10_answers_47 : decode cX10_answers 47 = .ok (.baload, 1) := by decide +kernel
theorem dX10_answers_48 : decode cX10_answers 48 = .ok (.ifCond .eq 5, 3) := by decide +kernel
theorem dX10_answers_51 : decode cX10_answers 51 = .ok (.iload_n 3, 1) := by decide +kernel
theorem dX10_answers_52 : decode cX10_answers 52 = .ok (.ireturn, 1) := by decide +kernel
theorem dX10_answers_53 : decode cX10_answers 53 = .ok (.iinc 3 1, 3) := by decide +kernel
theorem dX10_answers_56 : decode cX10_answers 56 = .ok (.goto (-54), 3) := by decide +kernel
theorem dX10_answers_59 : decode cX10_answers 59 = .ok (.iconst (-1), 1) := by decide +kernel
theorem dX10_answers_60 : decode cX10_answers 60 = .ok (.ireturn, 1) := by decide +kernel
theorem dX10_guard_0 : decode cX10_guard 0 = .ok (.aload_n 0, 1) := by decide +kernel
theorem dX10_guard_1 : decode cX10_guard 1 = .ok (.bipush 10, 2) := by decide +kernel
theorem dX10_guard_3 : decode cX10_guard 3 = .ok (.invokevirtual 84, 3) := by decide +kernel
theorem dX10_guard_6 : decode cX10_guard 6 = .ok (.ifCond .eq 4, 3) := by decide +kernel
theorem dX10_guard_9 : decode cX10_guard 9 = .ok (.return_, 1) := by decide +kernel
theorem dX10_guard_10 : decode cX10_guard 10 = .ok (.iconst 0, 1) := by decide +kernel
theorem dX10_guard_11 : decode cX10_guard 11 = .ok (.istore_n 1, 1) := by decide +kernel
theorem dX10_guard_12 : decode cX10_guard 12 = .ok (.iload_n 1, 1) := by decide +kernel
theorem dX10_guard_13 : decode cX10_guard 13 = .ok (.aload_n 0, 1) := by decide +kernel
theorem dX10_guard_14 : decode cX10_guard 14 = .ok (.invokevirtual 87, 3) := by decide +kernel
theorem dX10_guard_17 : decode cX10_guard 17 = .ok (.if_icmp .gt 16, 3) := by decide +kernel
theorem dX10_guard_20 : decode cX10_guard 20 = .ok (.aload_n 0, 1) := by decide +kernel
theorem dX10_guard_21 : decode cX10_guard 21 = .ok (.getfield 42, 3) := by decide +kernel
theorem dX10_guard_24 : decode cX10_guard 24 = .ok (.iload_n 1, 1) := by decide +kernel
theorem dX10_guard_25 : decode cX10_guard 25 = .ok (.iconst 1, 1) := by decide +kernel
theorem dX10_guard_26 : decode cX10_guard 26 = .ok (.bastore, 1) := by decide +kernel
theorem dX10_guard_27 : decode cX10_guard 27 = .ok (.iinc 1 1, 3) := by decide +kernel
theorem dX10_guard_30 : decode cX10_guard 30 = .ok (.goto (-18), 3) := by decide +kernel
theorem dX10_guard_33 : decode cX10_guard 33 = .ok (.iconst 1, 1) := by decide +kernel
theorem dX10_guard_34 : decode cX10_guard 34 = .ok (.istore_n 1, 1) := by decide +kernel
theorem dX10_guard_35 : decode cX10_guard 35 = .ok (.iload_n 1, 1) := by decide +kernel
theorem dX10_guard_36 : decode cX10_guard 36 = .ok (.ifCond .eq 78, 3) := by decide +kernel
theorem dX10_guard_39 : decode cX10_guard 39 = .ok (.iconst 0, 1) := by decide +kernel
theorem dX10_guard_40 : decode cX10_guard 40 = .ok (.istore_n 1, 1) := by decide +kernel
theorem dX10_guard_41 : decode cX10_guard 41 = .ok (.iconst 0, 1) := by decide +kernel
theorem dX10_guard_42 : decode cX10_guard 42 = .ok (.istore_n 2, 1) := by decide +kernel
theorem dX10_guard_43 : decode cX10_guard 43 = .ok (.iload_n 2, 1) := by decide +kernel
theorem dX10_guard_44 : decode cX10_guard 44 = .ok (.aload_n 0, 1) := by decide +kernel
theorem dX10_guard_45 : decode cX10_guard 45 = .ok (.invokevirtual 87, 3) := by decide +kernel
theorem dX10_guard_48 : decode cX10_guard 48 = .ok (.if_icmp .gt 63, 3) := by decide +kernel
theorem dX10_guard_51 : decode cX10_guard 51 = .ok (.iconst 0, 1) := by decide +kernel
theorem dX10_guard_52 : decode cX10_guard 52 = .ok (.istore_n 3, 1) := by decide +kernel
theorem dX10_guard_53 : decode cX10_guard 53 = .ok (.iload_n 3, 1) := by decide +kernel
theorem dX10_guard_54 : decode cX10_guard 54 = .ok (.aload_n 0, 1) := by decide +kernel
theorem dX10_guard_55 : decode cX10_guard 55 = .ok (.getfield 48, 3) := by decide +kernel
theorem dX10_guard_58 : decode cX10_guard 58 = .ok (.if_icmp .ge 47, 3) := by decide +kernel
theorem dX10_guard_61 : decode cX10_guard 61 = .ok (.aload_n 0, 1) := by decide +kernel
theorem dX10_guard_62 : decode cX10_guard 62 = .ok (.getfield 42, 3) := by decide +kernel
theorem dX10_guard_65 : decode cX10_guard 65 = .ok (.iload_n 2, 1) := by decide +kernel
theorem dX10_guard_66 : decode cX10_guard 66 = .ok (.baload, 1) := by decide +kernel
theorem dX10_guard_67 : decode cX10_guard 67 = .ok (.ifCond .eq 38, 3) := by decide +kernel
theorem dX10_guard_70 : decode cX10_guard 70 = .ok (.iload_n 2, 1) := by decide +kernel
theorem dX10_guard_71 : decode cX10_guard 71 = .ok (.iload_n 3, 1) := by decide +kernel
theorem dX10_guard_72 : decode cX10_guard 72 = .ok (.invokestatic 70, 3) := by decide +kernel
theorem dX10_guard_75 : decode cX10_guard 75 = .ok (.ifCond .ne 24, 3) := by decide +kernel
theorem dX10_guard_78 : decode cX10_guard 78 = .ok (.aload_n 0, 1) := by decide +kernel
theorem dX10_guard_79 : decode cX10_guard 79 = .ok (.iload_n 2, 1) := by decide +kernel
theorem dX10_guard_80 : decode cX10_guard 80 = .ok (.iload_n 3, 1) := by decide +kernel
theorem dX10_guard_81 : decode cX10_guard 81 = .ok (.invokevirtual 138, 3) := by decide +kernel
theorem dX10_guard_84 : decode cX10_guard 84 = .ok (.ifCond .lt 6, 3) := by decide +kernel
theorem dX10_guard_87 : decode cX10_guard 87 = .ok (.goto 12, 3) := by decide +kernel
theorem dX10_guard_90 : decode cX10_guard 90 = .ok (.aload_n 0, 1) := by decide +kernel
theorem dX10_guard_91 : decode cX10_guard 91 = .ok (.getfield 42, 3) := by decide +kernel
theorem dX10_guard_94 : decode cX10_guard 94 = .ok (.iload_n 2, 1) := by decide +kernel
theorem dX10_guard_95 : decode cX10_guard 95 = .ok (.iconst 0, 1) := by decide +kernel
theorem dX10_guard_96 : decode cX10_guard 96 = .ok (.bastore, 1) := by decide +kernel
theorem dX10_guard_97 : decode cX10_guard 97 = .ok (.iconst 1, 1) := by decide +kernel
theorem dX10_guard_98 : decode cX10_guard 98 = .ok (.istore_n 1, 1) := by decide +kernel
theorem dX10_guard_99 : decode cX10_guard 99 = .ok (.iinc 3 1, 3) := by decide +kernel
theorem dX10_guard_102 : decode cX10_guard 102 = .ok (.goto (-49), 3) := by decide +kernel
theorem dX10_guard_105 : decode cX10_guard 105 = .ok (.iinc 2 1, 3) := by decide +kernel
theorem dX10_guard_108 : decode cX10_guard 108 = .ok (.goto (-65), 3) := by decide +kernel
theorem dX10_guard_111 : decode cX10_guard 111 = .ok (.goto (-76), 3) := by decide +kernel
theorem dX10_guard_114 : decode cX10_guard 114 = .ok (.return_, 1) := by decide +kernel
theorem dX10_holds_0 : decode cX10_holds 0 = .ok (.aload_n 0, 1) := by decide +kernel
theorem dX10_holds_1 : decode cX10_holds 1 = .ok (.iload_n 1, 1) := by decide +kernel
theorem dX10_holds_2 : decode cX10_holds 2 = .ok (.invokevirtual 98, 3) := by decide +kernel
theorem dX10_holds_5 : decode cX10_holds 5 = .ok (.ifCond .ne 6, 3) := by decide +kernel
theorem dX10_holds_8 : decode cX10_holds 8 = .ok (.bipush (-2), 2) := by decide +kernel
theorem dX10_holds_10 : decode cX10_holds 10 = .ok (.ireturn, 1) := by decide +kernel
theorem dX10_holds_11 : decode cX10_holds 11 = .ok (.aload_n 0, 1) := by decide +kernel
theorem dX10_holds_12 : decode cX10_holds 12 = .ok (.invokevirtual 141, 3) := by decide +kernel
theorem dX10_holds_15 : decode cX10_holds 15 = .ok (.aload_n 0, 1) := by decide +kernel
theorem dX10_holds_16 : decode cX10_holds 16 = .ok (.getfield 42, 3) := by decide +kernel
theorem dX10_holds_19 : decode cX10_holds 19 = .ok (.iload_n 1, 1) := by decide +kernel
theorem dX10_holds_20 : decode cX10_holds 20 = .ok (.baload, 1) := by decide +kernel
theorem dX10_holds_21 : decode cX10_holds 21 = .ok (.ifCond .eq 7, 3) := by decide +kernel
theorem dX10_holds_24 : decode cX10_holds 24 = .ok (.iconst 1, 1) := by decide +kernel
theorem dX10_holds_25 : decode cX10_holds 25 = .ok (.goto 4, 3) := by decide +kernel
theorem dX10_holds_28 : decode cX10_holds 28 = .ok (.iconst 0, 1) := by decide +kernel
theorem dX10_holds_29 : decode cX10_holds 29 = .ok (.ireturn, 1) := by decide +kernel
theorem dX10_guards_0 : decode cX10_guards 0 = .ok (.aload_n 0, 1) := by decide +kernel
theorem dX10_guards_1 : decode cX10_guards 1 = .ok (.invokevirtual 141, 3) := by decide +kernel
theorem dX10_guards_4 : decode cX10_guards 4 = .ok (.aload_n 0, 1) := by decide +kernel
theorem dX10_guards_5 : decode cX10_guards 5 = .ok (.getfield 48, 3) := by decide +kernel
theorem dX10_guards_8 : decode cX10_guards 8 = .ok (.istore_n 1, 1) := by decide +kernel
theorem dX10_guards_9 : decode cX10_guards 9 = .ok (.iconst 0, 1) := by decide +kernel
theorem dX10_guards_10 : decode cX10_guards 10 = .ok (.istore_n 2, 1) := by decide +kernel
theorem dX10_guards_11 : decode cX10_guards 11 = .ok (.iload_n 2, 1) := by decide +kernel
theorem dX10_guards_12 : decode cX10_guards 12 = .ok (.aload_n 0, 1) := by decide +kernel
theorem dX10_guards_13 : decode cX10_guards 13 = .ok (.invokevirtual 87, 3) := by decide +kernel
theorem dX10_guards_16 : decode cX10_guards 16 = .ok (.if_icmp .gt 31, 3) := by decide +kernel
theorem dX10_guards_19 : decode cX10_guards 19 = .ok (.aload_n 0, 1) := by decide +kernel
theorem dX10_guards_20 : decode cX10_guards 20 = .ok (.getfield 42, 3) := by decide +kernel
theorem dX10_guards_23 : decode cX10_guards 23 = .ok (.iload_n 2, 1) := by decide +kernel
theorem dX10_guards_24 : decode cX10_guards 24 = .ok (.baload, 1) := by decide +kernel
theorem dX10_guards_25 : decode cX10_guards 25 = .ok (.ifCond .eq 16, 3) := by decide +kernel
theorem dX10_guards_28 : decode cX10_guards 28 = .ok (.iload_n 2, 1) := by decide +kernel
theorem dX10_guards_29 : decode cX10_guards 29 = .ok (.invokestatic 111, 3) := by decide +kernel
theorem dX10_guards_32 : decode cX10_guards 32 = .ok (.iload_n 1, 1) := by decide +kernel
theorem dX10_guards_33 : decode cX10_guards 33 = .ok (.if_icmp .ge 8, 3) := by decide +kernel
theorem dX10_guards_36 : decode cX10_guards 36 = .ok (.iload_n 2, 1) := by decide +kernel
theorem dX10_guards_37 : decode cX10_guards 37 = .ok (.invokestatic 111, 3) := by decide +kernel
theorem dX10_guards_40 : decode cX10_guards 40 = .ok (.istore_n 1, 1) := by decide +kernel
theorem dX10_guards_41 : decode cX10_guards 41 = .ok (.iinc 2 1, 3) := by decide +kernel
theorem dX10_guards_44 : decode cX10_guards 44 = .ok (.goto (-33), 3) := by decide +kernel
theorem dX10_guards_47 : decode cX10_guards 47 = .ok (.iload_n 1, 1) := by decide +kernel
theorem dX10_guards_48 : decode cX10_guards 48 = .ok (.ireturn, 1) := by decide +kernel
theorem dX10_answer_0 : decode cX10_answer 0 = .ok (.aload_n 0, 1) := by decide +kernel
theorem dX10_answer_1 : decode cX10_answer 1 = .ok (.iload_n 1, 1) := by decide +kernel
theorem dX10_answer_2 : decode cX10_answer 2 = .ok (.invokevirtual 98, 3) := by decide +kernel
theorem dX10_answer_5 : decode cX10_answer 5 = .ok (.ifCond .eq 11, 3) := by decide +kernel
theorem dX10_answer_8 : decode cX10_answer 8 = .ok (.aload_n 0, 1) := by decide +kernel
theorem dX10_answer_9 : decode cX10_answer 9 = .ok (.iload_n 2, 1) := by decide +kernel
theorem dX10_answer_10 : decode cX10_answer 10 = .ok (.invokevirtual 59, 3) := by decide +kernel
theorem dX10_answer_13 : decode cX10_answer 13 = .ok (.ifCond .ne 6, 3) := by decide +kernel
theorem dX10_answer_16 : decode cX10_answer 16 = .ok (.bipush (-2), 2) := by decide +kernel
theorem dX10_answer_18 : decode cX10_answer 18 = .ok (.ireturn, 1) := by decide +kernel
theorem dX10_answer_19 : decode cX10_answer 19 = .ok (.aload_n 0, 1) := by decide +kernel
theorem dX10_answer_20 : decode cX10_answer 20 = .ok (.invokevirtual 141, 3) := by decide +kernel
theorem dX10_answer_23 : decode cX10_answer 23 = .ok (.iload_n 1, 1) := by decide +kernel
theorem dX10_answer_24 : decode cX10_answer 24 = .ok (.iload_n 2, 1) := by decide +kernel
theorem dX10_answer_25 : decode cX10_answer 25 = .ok (.invokestatic 70, 3) := by decide +kernel
theorem dX10_answer_28 : decode cX10_answer 28 = .ok (.ifCond .ne 12, 3) := by decide +kernel
theorem dX10_answer_31 : decode cX10_answer 31 = .ok (.aload_n 0, 1) := by decide +kernel
theorem dX10_answer_32 : decode cX10_answer 32 = .ok (.getfield 42, 3) := by decide +kernel
theorem dX10_answer_35 : decode cX10_answer 35 = .ok (.iload_n 1, 1) := by decide +kernel
theorem dX10_answer_36 : decode cX10_answer 36 = .ok (.baload, 1) := by decide +kernel
theorem dX10_answer_37 : decode cX10_answer 37 = .ok (.ifCond .ne 7, 3) := by decide +kernel
theorem dX10_answer_40 : decode cX10_answer 40 = .ok (.iconst (-1), 1) := by decide +kernel
theorem dX10_answer_41 : decode cX10_answer 41 = .ok (.goto 9, 3) := by decide +kernel
theorem dX10_answer_44 : decode cX10_answer 44 = .ok (.aload_n 0, 1) := by decide +kernel
theorem dX10_answer_45 : decode cX10_answer 45 = .ok (.iload_n 1, 1) := by decide +kernel
theorem dX10_answer_46 : decode cX10_answer 46 = .ok (.iload_n 2, 1) := by decide +kernel
theorem dX10_answer_47 : decode cX10_answer 47 = .ok (.invokevirtual 138, 3) := by decide +kernel
theorem dX10_answer_50 : decode cX10_answer 50 = .ok (.ireturn, 1) := by decide +kernel
theorem dX10_play_0 : decode cX10_play 0 = .ok (.aload_n 0, 1) := by decide +kernel
theorem dX10_play_1 : decode cX10_play 1 = .ok (.iconst 3, 1) := by decide +kernel
theorem dX10_play_2 : decode cX10_play 2 = .ok (.iload_n 1, 1) := by decide +kernel
theorem dX10_play_3 : decode cX10_play 3 = .ok (.iadd, 1) := by decide +kernel
theorem dX10_play_4 : decode cX10_play 4 = .ok (.invokevirtual 84, 3) := by decide +kernel
theorem dX10_play_7 : decode cX10_play 7 = .ok (.ifCond .eq 4, 3) := by decide +kernel
theorem dX10_play_10 : decode cX10_play 10 = .ok (.return_, 1) := by decide +kernel
theorem dX10_play_11 : decode cX10_play 11 = .ok (.aload_n 0, 1) := by decide +kernel
theorem dX10_play_12 : decode cX10_play 12 = .ok (.invokevirtual 87, 3) := by decide +kernel
theorem dX10_play_15 : decode cX10_play 15 = .ok (.istore_n 2, 1) := by decide +kernel
theorem dX10_play_16 : decode cX10_play 16 = .ok (.iload_n 2, 1) := by decide +kernel
theorem dX10_play_17 : decode cX10_play 17 = .ok (.ifCond .lt 35, 3) := by decide +kernel
theorem dX10_play_20 : decode cX10_play 20 = .ok (.aload_n 0, 1) := by decide +kernel
theorem dX10_play_21 : decode cX10_play 21 = .ok (.getfield 45, 3) := by decide +kernel
theorem dX10_play_24 : decode cX10_play 24 = .ok (.sipush 4096, 3) := by decide +kernel
theorem dX10_play_27 : decode cX10_play 27 = .ok (.iload_n 1, 1) := by decide +kernel
theorem dX10_play_28 : decode cX10_play 28 = .ok (.imul, 1) := by decide +kernel
theorem dX10_play_29 : decode cX10_play 29 = .ok (.iload_n 2, 1) := by decide +kernel
theorem dX10_play_30 : decode cX10_play 30 = .ok (.iadd, 1) := by decide +kernel
theorem dX10_play_31 : decode cX10_play 31 = .ok (.aload_n 0, 1) := by decide +kernel
theorem dX10_play_32 : decode cX10_play 32 = .ok (.iload_n 1, 1) := by decide +kernel
theorem dX10_play_33 : decode cX10_play 33 = .ok (.iload_n 2, 1) := by decide +kernel
theorem dX10_play_34 : decode cX10_play 34 = .ok (.invokevirtual 144, 3) := by decide +kernel
theorem dX10_play_37 : decode cX10_play 37 = .ok (.ifCond .lt 7, 3) := by decide +kernel
theorem dX10_play_40 : decode cX10_play 40 = .ok (.iconst 1, 1) := by decide +kernel
theorem dX10_play_41 : decode cX10_play 41 = .ok (.goto 4, 3) := by decide +kernel
theorem dX10_play_44 : decode cX10_play 44 = .ok (.iconst 0, 1) := by decide +kernel
theorem dX10_play_45 : decode cX10_play 45 = .ok (.bastore, 1) := by decide +kernel
theorem dX10_play_46 : decode cX10_play 46 = .ok (.iinc 2 (-1), 3) := by decide +kernel
theorem dX10_play_49 : decode cX10_play 49 = .ok (.goto (-33), 3) := by decide +kernel
theorem dX10_play_52 : decode cX10_play 52 = .ok (.return_, 1) := by decide +kernel
theorem dX10_winsBy_0 : decode cX10_winsBy 0 = .ok (.iconst 0, 1) := by decide +kernel
theorem dX10_winsBy_1 : decode cX10_winsBy 1 = .ok (.istore_n 3, 1) := by decide +kernel
theorem dX10_winsBy_2 : decode cX10_winsBy 2 = .ok (.iload_n 3, 1) := by decide +kernel
theorem dX10_winsBy_3 : decode cX10_winsBy 3 = .ok (.aload_n 0, 1) := by decide +kernel
theorem dX10_winsBy_4 : decode cX10_winsBy 4 = .ok (.getfield 48, 3) := by decide +kernel
theorem dX10_winsBy_7 : decode cX10_winsBy 7 = .ok (.if_icmp .ge 43, 3) := by decide +kernel
theorem dX10_winsBy_10 : decode cX10_winsBy 10 = .ok (.iload_n 2, 1) := by decide +kernel
theorem dX10_winsBy_11 : decode cX10_winsBy 11 = .ok (.iload_n 3, 1) := by decide +kernel
theorem dX10_winsBy_12 : decode cX10_winsBy 12 = .ok (.invokestatic 70, 3) := by decide +kernel
theorem dX10_winsBy_15 : decode cX10_winsBy 15 = .ok (.ifCond .ne 29, 3) := by decide +kernel
theorem dX10_winsBy_18 : decode cX10_winsBy 18 = .ok (.aload_n 0, 1) := by decide +kernel
theorem dX10_winsBy_19 : decode cX10_winsBy 19 = .ok (.getfield 45, 3) := by decide +kernel
theorem dX10_winsBy_22 : decode cX10_winsBy 22 = .ok (.sipush 4096, 3) := by decide +kernel
theorem dX10_winsBy_25 : decode cX10_winsBy 25 = .ok (.iload_n 1, 1) := by decide +kernel
theorem dX10_winsBy_26 : decode cX10_winsBy 26 = .ok (.imul, 1) := by decide +kernel
theorem dX10_winsBy_27 : decode cX10_winsBy 27 = .ok (.aload_n 0, 1) := by decide +kernel
theorem dX10_winsBy_28 : decode cX10_winsBy 28 = .ok (.iload_n 1, 1) := by decide +kernel
theorem dX10_winsBy_29 : decode cX10_winsBy 29 = .ok (.iload_n 2, 1) := by decide +kernel
theorem dX10_winsBy_30 : decode cX10_winsBy 30 = .ok (.iconst 1, 1) := by decide +kernel
theorem dX10_winsBy_31 : decode cX10_winsBy 31 = .ok (.iload_n 3, 1) := by decide +kernel
theorem dX10_winsBy_32 : decode cX10_winsBy 32 = .ok (.ishl, 1) := by decide +kernel
theorem dX10_winsBy_33 : decode cX10_winsBy 33 = .ok (.ior, 1) := by decide +kernel
theorem dX10_winsBy_34 : decode cX10_winsBy 34 = .ok (.invokevirtual 114, 3) := by decide +kernel
theorem dX10_winsBy_37 : decode cX10_winsBy 37 = .ok (.iadd, 1) := by decide +kernel
theorem dX10_winsBy_38 : decode cX10_winsBy 38 = .ok (.baload, 1) := by decide +kernel
theorem dX10_winsBy_39 : decode cX10_winsBy 39 = .ok (.ifCond .ne 5, 3) := by decide +kernel
theorem dX10_winsBy_42 : decode cX10_winsBy 42 = .ok (.iload_n 3, 1) := by decide +kernel
theorem dX10_winsBy_43 : decode cX10_winsBy 43 = .ok (.ireturn, 1) := by decide +kernel
theorem dX10_winsBy_44 : decode cX10_winsBy 44 = .ok (.iinc 3 1, 3) := by decide +kernel
theorem dX10_winsBy_47 : decode cX10_winsBy 47 = .ok (.goto (-45), 3) := by decide +kernel
theorem dX10_winsBy_50 : decode cX10_winsBy 50 = .ok (.iconst (-1), 1) := by decide +kernel
theorem dX10_winsBy_51 : decode cX10_winsBy 51 = .ok (.ireturn, 1) := by decide +kernel
theorem dX10_win_0 : decode cX10_win 0 = .ok (.iload_n 1, 1) := by decide +kernel
theorem dX10_win_1 : decode cX10_win 1 = .ok (.invokestatic 95, 3) := by decide +kernel
theorem dX10_win_4 : decode cX10_win 4 = .ok (.ifCond .eq 11, 3) := by decide +kernel
theorem dX10_win_7 : decode cX10_win 7 = .ok (.aload_n 0, 1) := by decide +kernel
theorem dX10_win_8 : decode cX10_win 8 = .ok (.iload_n 2, 1) := by decide +kernel
theorem dX10_win_9 : decode cX10_win 9 = .ok (.invokevirtual 98, 3) := by decide +kernel
theorem dX10_win_12 : decode cX10_win 12 = .ok (.ifCond .ne 6, 3) := by decide +kernel
theorem dX10_win_15 : decode cX10_win 15 = .ok (.bipush (-2), 2) := by decide +kernel
theorem dX10_win_17 : decode cX10_win 17 = .ok (.ireturn, 1) := by decide +kernel
theorem dX10_win_18 : decode cX10_win 18 = .ok (.aload_n 0, 1) := by decide +kernel
theorem dX10_win_19 : decode cX10_win 19 = .ok (.iload_n 1, 1) := by decide +kernel
theorem dX10_win_20 : decode cX10_win 20 = .ok (.invokevirtual 147, 3) := by decide +kernel
theorem dX10_win_23 : decode cX10_win 23 = .ok (.aload_n 0, 1) := by decide +kernel
theorem dX10_win_24 : decode cX10_win 24 = .ok (.getfield 45, 3) := by decide +kernel
theorem dX10_win_27 : decode cX10_win 27 = .ok (.sipush 4096, 3) := by decide +kernel
theorem dX10_win_30 : decode cX10_win 30 = .ok (.iload_n 1, 1) := by decide +kernel
theorem dX10_win_31 : decode cX10_win 31 = .ok (.imul, 1) := by decide +kernel
theorem dX10_win_32 : decode cX10_win 32 = .ok (.iload_n 2, 1) := by decide +kernel
theorem dX10_win_33 : decode cX10_win 33 = .ok (.iadd, 1) := by decide +kernel
theorem dX10_win_34 : decode cX10_win 34 = .ok (.baload, 1) := by decide +kernel
theorem dX10_win_35 : decode cX10_win 35 = .ok (.ifCond .eq 7, 3) := by decide +kernel
theorem dX10_win_38 : decode cX10_win 38 = .ok (.iconst 1, 1) := by decide +kernel
theorem dX10_win_39 : decode cX10_win 39 = .ok (.goto 4, 3) := by decide +kernel
theorem dX10_win_42 : decode cX10_win 42 = .ok (.iconst 0, 1) := by decide +kernel
theorem dX10_win_43 : decode cX10_win 43 = .ok (.ireturn, 1) := by decide +kernel
theorem dX10_first_0 : decode cX10_first 0 = .ok (.iload_n 1, 1) := by decide +kernel
theorem dX10_first_1 : decode cX10_first 1 = .ok (.invokestatic 95, 3) := by decide +kernel
theorem dX10_first_4 : decode cX10_first 4 = .ok (.ifCond .eq 11, 3) := by decide +kernel
theorem dX10_first_7 : decode cX10_first 7 = .ok (.aload_n 0, 1) := by decide +kernel
theorem dX10_first_8 : decode cX10_first 8 = .ok (.iload_n 2, 1) := by decide +kernel
theorem dX10_first_9 : decode cX10_first 9 = .ok (.invokevirtual 98, 3) := by decide +kernel
theorem dX10_first_12 : decode cX10_first 12 = .ok (.ifCond .ne 6, 3) := by decide +kernel
theorem dX10_first_15 : decode cX10_first 15 = .ok (.bipush (-2), 2) := by decide +kernel
theorem dX10_first_17 : decode cX10_first 17 = .ok (.ireturn, 1) := by decide +kernel
theorem dX10_first_18 : decode cX10_first 18 = .ok (.aload_n 0, 1) := by decide +kernel
theorem dX10_first_19 : decode cX10_first 19 = .ok (.iload_n 1, 1) := by decide +kernel
theorem dX10_first_20 : decode cX10_first 20 = .ok (.invokevirtual 147, 3) := by decide +kernel
theorem dX10_first_23 : decode cX10_first 23 = .ok (.aload_n 0, 1) := by decide +kernel
theorem dX10_first_24 : decode cX10_first 24 = .ok (.iload_n 1, 1) := by decide +kernel
theorem dX10_first_25 : decode cX10_first 25 = .ok (.iload_n 2, 1) := by decide +kernel
theorem dX10_first_26 : decode cX10_first 26 = .ok (.invokevirtual 144, 3) := by decide +kernel
theorem dX10_first_29 : decode cX10_first 29 = .ok (.ireturn, 1) := by decide +kernel
theorem dX10_count_0 : decode cX10_count 0 = .ok (.aload_n 0, 1) := by decide +kernel
theorem dX10_count_1 : decode cX10_count 1 = .ok (.getfield 48, 3) := by decide +kernel
theorem dX10_count_4 : decode cX10_count 4 = .ok (.ireturn, 1) := by decide +kernel
