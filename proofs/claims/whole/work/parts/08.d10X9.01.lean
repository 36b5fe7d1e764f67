theorem dX9_least_19 : decode cX9_least 19 = .ok (.invokevirtual 152, 3) := by decide +kernel
theorem dX9_least_22 : decode cX9_least 22 = .ok (.goto 5, 3) := by decide +kernel
theorem dX9_least_25 : decode cX9_least 25 = .ok (.bipush (-2), 2) := by decide +kernel
theorem dX9_least_27 : decode cX9_least 27 = .ok (.ireturn, 1) := by decide +kernel
theorem dX9_many_0 : decode cX9_many 0 = .ok (.iload_n 1, 1) := by decide +kernel
theorem dX9_many_1 : decode cX9_many 1 = .ok (.invokestatic 112, 3) := by decide +kernel
theorem dX9_many_4 : decode cX9_many 4 = .ok (.ifCond .eq 21, 3) := by decide +kernel
theorem dX9_many_7 : decode cX9_many 7 = .ok (.aload_n 0, 1) := by decide +kernel
theorem dX9_many_8 : decode cX9_many 8 = .ok (.getfield 37, 3) := by decide +kernel
theorem dX9_many_11 : decode cX9_many 11 = .ok (.aload_n 0, 1) := by decide +kernel
theorem dX9_many_12 : decode cX9_many 12 = .ok (.getfield 21, 3) := by decide +kernel
theorem dX9_many_15 : decode cX9_many 15 = .ok (.iload_n 1, 1) := by decide +kernel
theorem dX9_many_16 : decode cX9_many 16 = .ok (.invokevirtual 148, 3) := by decide +kernel
theorem dX9_many_19 : decode cX9_many 19 = .ok (.invokevirtual 156, 3) := by decide +kernel
theorem dX9_many_22 : decode cX9_many 22 = .ok (.goto 5, 3) := by decide +kernel
theorem dX9_many_25 : decode cX9_many 25 = .ok (.bipush (-2), 2) := by decide +kernel
theorem dX9_many_27 : decode cX9_many 27 = .ok (.ireturn, 1) := by decide +kernel
theorem dX9_cheapest_0 : decode cX9_cheapest 0 = .ok (.iload_n 1, 1) := by decide +kernel
theorem dX9_cheapest_1 : decode cX9_cheapest 1 = .ok (.invokestatic 112, 3) := by decide +kernel
theorem dX9_cheapest_4 : decode cX9_cheapest 4 = .ok (.ifCond .eq 21, 3) := by decide +kernel
theorem dX9_cheapest_7 : decode cX9_cheapest 7 = .ok (.aload_n 0, 1) := by decide +kernel
theorem dX9_cheapest_8 : decode cX9_cheapest 8 = .ok (.getfield 37, 3) := by decide +kernel
theorem dX9_cheapest_11 : decode cX9_cheapest 11 = .ok (.aload_n 0, 1) := by decide +kernel
theorem dX9_cheapest_12 : decode cX9_cheapest 12 = .ok (.getfield 21, 3) := by decide +kernel
theorem dX9_cheapest_15 : decode cX9_cheapest 15 = .ok (.iload_n 1, 1) := by decide +kernel
theorem dX9_cheapest_16 : decode cX9_cheapest 16 = .ok (.invokevirtual 148, 3) := by decide +kernel
theorem dX9_cheapest_19 : decode cX9_cheapest 19 = .ok (.invokevirtual 159, 3) := by decide +kernel
theorem dX9_cheapest_22 : decode cX9_cheapest 22 = .ok (.goto 5, 3) := by decide +kernel
theorem dX9_cheapest_25 : decode cX9_cheapest 25 = .ok (.bipush (-2), 2) := by decide +kernel
theorem dX9_cheapest_27 : decode cX9_cheapest 27 = .ok (.ireturn, 1) := by decide +kernel
theorem dX9_pared_0 : decode cX9_pared 0 = .ok (.iload_n 1, 1) := by decide +kernel
theorem dX9_pared_1 : decode cX9_pared 1 = .ok (.invokestatic 112, 3) := by decide +kernel
theorem dX9_pared_4 : decode cX9_pared 4 = .ok (.ifCond .eq 21, 3) := by decide +kernel
theorem dX9_pared_7 : decode cX9_pared 7 = .ok (.aload_n 0, 1) := by decide +kernel
theorem dX9_pared_8 : decode cX9_pared 8 = .ok (.getfield 37, 3) := by decide +kernel
theorem dX9_pared_11 : decode cX9_pared 11 = .ok (.aload_n 0, 1) := by decide +kernel
theorem dX9_pared_12 : decode cX9_pared 12 = .ok (.getfield 21, 3) := by decide +kernel
theorem dX9_pared_15 : decode cX9_pared 15 = .ok (.iload_n 1, 1) := by decide +kernel
theorem dX9_pared_16 : decode cX9_pared 16 = .ok (.invokevirtual 148, 3) := by decide +kernel
theorem dX9_pared_19 : decode cX9_pared 19 = .ok (.invokevirtual 162, 3) := by decide +kernel
theorem dX9_pared_22 : decode cX9_pared 22 = .ok (.goto 5, 3) := by decide +kernel
theorem dX9_pared_25 : decode cX9_pared 25 = .ok (.bipush (-2), 2) := by decide +kernel
theorem dX9_pared_27 : decode cX9_pared 27 = .ok (.ireturn, 1) := by decide +kernel
theorem dX9_burn_0 : decode cX9_burn 0 = .ok (.aload_n 0, 1) := by decide +kernel
theorem dX9_burn_1 : decode cX9_burn 1 = .ok (.getfield 51, 3) := by decide +kernel
theorem dX9_burn_4 : decode cX9_burn 4 = .ok (.invokevirtual 165, 3) := by decide +kernel
theorem dX9_burn_7 : decode cX9_burn 7 = .ok (.ireturn, 1) := by decide +kernel
theorem dX9_hand_0 : decode cX9_hand 0 = .ok (.aload_n 0, 1) := by decide +kernel
theorem dX9_hand_1 : decode cX9_hand 1 = .ok (.getfield 51, 3) := by decide +kernel
theorem dX9_hand_4 : decode cX9_hand 4 = .ok (.iload_n 1, 1) := by decide +kernel
theorem dX9_hand_5 : decode cX9_hand 5 = .ok (.invokevirtual 168, 3) := by decide +kernel
theorem dX9_hand_8 : decode cX9_hand 8 = .ok (.ireturn, 1) := by decide +kernel
theorem dX9_burnt_0 : decode cX9_burnt 0 = .ok (.lload_n 1, 1) := by decide +kernel
theorem dX9_burnt_1 : decode cX9_burnt 1 = .ok (.lconst 0, 1) := by decide +kernel
theorem dX9_burnt_2 : decode cX9_burnt 2 = .ok (.lcmp, 1) := by decide +kernel
theorem dX9_burnt_3 : decode cX9_burnt 3 = .ok (.ifCond .ge 8, 3) := by decide +kernel
theorem dX9_burnt_6 : decode cX9_burnt 6 = .ok (.bipush (-2), 2) := by decide +kernel
theorem dX9_burnt_8 : decode cX9_burnt 8 = .ok (.goto 11, 3) := by decide +kernel
theorem dX9_burnt_11 : decode cX9_burnt 11 = .ok (.aload_n 0, 1) := by decide +kernel
theorem dX9_burnt_12 : decode cX9_burnt 12 = .ok (.getfield 51, 3) := by decide +kernel
theorem dX9_burnt_15 : decode cX9_burnt 15 = .ok (.lload_n 1, 1) := by decide +kernel
theorem dX9_burnt_16 : decode cX9_burnt 16 = .ok (.invokevirtual 171, 3) := by decide +kernel
theorem dX9_burnt_19 : decode cX9_burnt 19 = .ok (.ireturn, 1) := by decide +kernel
theorem dX9_save_0 : decode cX9_save 0 = .ok (.aload_n 0, 1) := by decide +kernel
theorem dX9_save_1 : decode cX9_save 1 = .ok (.getfield 12, 3) := by decide +kernel
theorem dX9_save_4 : decode cX9_save 4 = .ok (.iload_n 1, 1) := by decide +kernel
theorem dX9_save_5 : decode cX9_save 5 = .ok (.invokevirtual 115, 3) := by decide +kernel
theorem dX9_save_8 : decode cX9_save 8 = .ok (.ifCond .eq 15, 3) := by decide +kernel
theorem dX9_save_11 : decode cX9_save 11 = .ok (.aload_n 0, 1) := by decide +kernel
theorem dX9_save_12 : decode cX9_save 12 = .ok (.getfield 12, 3) := by decide +kernel
theorem dX9_save_15 : decode cX9_save 15 = .ok (.getfield 76, 3) := by decide +kernel
theorem dX9_save_18 : decode cX9_save 18 = .ok (.bipush 10, 2) := by decide +kernel
theorem dX9_save_20 : decode cX9_save 20 = .ok (.if_icmp .le 6, 3) := by decide +kernel
theorem dX9_save_23 : decode cX9_save 23 = .ok (.bipush (-2), 2) := by decide +kernel
theorem dX9_save_25 : decode cX9_save 25 = .ok (.ireturn, 1) := by decide +kernel
theorem dX9_save_26 : decode cX9_save 26 = .ok (.aload_n 0, 1) := by decide +kernel
theorem dX9_save_27 : decode cX9_save 27 = .ok (.getfield 58, 3) := by decide +kernel
theorem dX9_save_30 : decode cX9_save 30 = .ok (.iload_n 1, 1) := by decide +kernel
theorem dX9_save_31 : decode cX9_save 31 = .ok (.invokevirtual 175, 3) := by decide +kernel
theorem dX9_save_34 : decode cX9_save 34 = .ok (.ireturn, 1) := by decide +kernel
theorem dX9_wall_0 : decode cX9_wall 0 = .ok (.aload_n 0, 1) := by decide +kernel
theorem dX9_wall_1 : decode cX9_wall 1 = .ok (.getfield 12, 3) := by decide +kernel
theorem dX9_wall_4 : decode cX9_wall 4 = .ok (.iload_n 1, 1) := by decide +kernel
theorem dX9_wall_5 : decode cX9_wall 5 = .ok (.invokevirtual 115, 3) := by decide +kernel
theorem dX9_wall_8 : decode cX9_wall 8 = .ok (.ifCond .eq 15, 3) := by decide +kernel
theorem dX9_wall_11 : decode cX9_wall 11 = .ok (.aload_n 0, 1) := by decide +kernel
theorem dX9_wall_12 : decode cX9_wall 12 = .ok (.getfield 12, 3) := by decide +kernel
theorem dX9_wall_15 : decode cX9_wall 15 = .ok (.getfield 76, 3) := by decide +kernel
theorem dX9_wall_18 : decode cX9_wall 18 = .ok (.bipush 10, 2) := by decide +kernel
theorem dX9_wall_20 : decode cX9_wall 20 = .ok (.if_icmp .le 6, 3) := by decide +kernel
theorem dX9_wall_23 : decode cX9_wall 23 = .ok (.bipush (-2), 2) := by decide +kernel
theorem dX9_wall_25 : decode cX9_wall 25 = .ok (.ireturn, 1) := by decide +kernel
theorem dX9_wall_26 : decode cX9_wall 26 = .ok (.aload_n 0, 1) := by decide +kernel
theorem dX9_wall_27 : decode cX9_wall 27 = .ok (.getfield 58, 3) := by decide +kernel
theorem dX9_wall_30 : decode cX9_wall 30 = .ok (.iload_n 1, 1) := by decide +kernel
theorem dX9_wall_31 : decode cX9_wall 31 = .ok (.iload_n 2, 1) := by decide +kernel
theorem dX9_wall_32 : decode cX9_wall 32 = .ok (.invokevirtual 178, 3) := by decide +kernel
theorem dX9_wall_35 : decode cX9_wall 35 = .ok (.ireturn, 1) := by decide +kernel
theorem dX9_holds_0 : decode cX9_holds 0 = .ok (.aload_n 0, 1) := by decide +kernel
theorem dX9_holds_1 : decode cX9_holds 1 = .ok (.getfield 12, 3) := by decide +kernel
theorem dX9_holds_4 : decode cX9_holds 4 = .ok (.iload_n 1, 1) := by decide +kernel
theorem dX9_holds_5 : decode cX9_holds 5 = .ok (.invokevirtual 115, 3) := by decide +kernel
theorem dX9_holds_8 : decode cX9_holds 8 = .ok (.ifCond .ne 6, 3) := by decide +kernel
theorem dX9_holds_11 : decode cX9_holds 11 = .ok (.bipush (-2), 2) := by decide +kernel
theorem dX9_holds_13 : decode cX9_holds 13 = .ok (.ireturn, 1) := by decide +kernel
theorem dX9_holds_14 : decode cX9_holds 14 = .ok (.aload_n 0, 1) := by decide +kernel
theorem dX9_holds_15 : decode cX9_holds 15 = .ok (.getfield 65, 3) := by decide +kernel
theorem dX9_holds_18 : decode cX9_holds 18 = .ok (.invokevirtual 181, 3) := by decide +kernel
theorem dX9_holds_21 : decode cX9_holds 21 = .ok (.iload_n 1, 1) := by decide +kernel
theorem dX9_holds_22 : decode cX9_holds 22 = .ok (.baload, 1) := by decide +kernel
theorem dX9_holds_23 : decode cX9_holds 23 = .ok (.ifCond .eq 7, 3) := by decide +kernel
theorem dX9_holds_26 : decode cX9_holds 26 = .ok (.iconst 1, 1) := by decide +kernel
theorem dX9_holds_27 : decode cX9_holds 27 = .ok (.goto 4, 3) := by decide +kernel
theorem dX9_holds_30 : decode cX9_holds 30 = .ok (.iconst 0, 1) := by decide +kernel
theorem dX9_holds_31 : decode cX9_holds 31 = .ok (.ireturn, 1) := by decide +kernel
theorem dX9_guards_0 : decode cX9_guards 0 = .ok (.aload_n 0, 1) := by decide +kernel
theorem dX9_guards_1 : decode cX9_guards 1 = .ok (.getfield 65, 3) := by decide +kernel
theorem dX9_guards_4 : decode cX9_guards 4 = .ok (.invokevirtual 185, 3) := by decide +kernel
theorem dX9_guards_7 : decode cX9_guards 7 = .ok (.ireturn, 1) := by decide +kernel
theorem dX9_answer_0 : decode cX9_answer 0 = .ok (.aload_n 0, 1) := by decide +kernel
theorem dX9_answer_1 : decode cX9_answer 1 = .ok (.getfield 12, 3) := by decide +kernel
theorem dX9_answer_4 : decode cX9_answer 4 = .ok (.iload_n 1, 1) := by decide +kernel
theorem dX9_answer_5 : decode cX9_answer 5 = .ok (.invokevirtual 115, 3) := by decide +kernel
theorem dX9_answer_8 : decode cX9_answer 8 = .ok (.ifCond .eq 14, 3) := by decide +kernel
theorem dX9_answer_11 : decode cX9_answer 11 = .ok (.aload_n 0, 1) := by decide +kernel
theorem dX9_answer_12 : decode cX9_answer 12 = .ok (.getfield 12, 3) := by decide +kernel
theorem dX9_answer_15 : decode cX9_answer 15 = .ok (.iload_n 2, 1) := by decide +kernel
theorem dX9_answer_16 : decode cX9_answer 16 = .ok (.invokevirtual 84, 3) := by decide +kernel
theorem dX9_answer_19 : decode cX9_answer 19 = .ok (.ifCond .ne 6, 3) := by decide +kernel
theorem dX9_answer_22 : decode cX9_answer 22 = .ok (.bipush (-2), 2) := by decide +kernel
theorem dX9_answer_24 : decode cX9_answer 24 = .ok (.ireturn, 1) := by decide +kernel
theorem dX9_answer_25 : decode cX9_answer 25 = .ok (.aload_n 0, 1) := by decide +kernel
theorem dX9_answer_26 : decode cX9_answer 26 = .ok (.getfield 65, 3) := by decide +kernel
theorem dX9_answer_29 : decode cX9_answer 29 = .ok (.iload_n 1, 1) := by decide +kernel
theorem dX9_answer_30 : decode cX9_answer 30 = .ok (.iload_n 2, 1) := by decide +kernel
theorem dX9_answer_31 : decode cX9_answer 31 = .ok (.invokevirtual 188, 3) := by decide +kernel
theorem dX9_answer_34 : decode cX9_answer 34 = .ok (.ireturn, 1) := by decide +kernel
theorem dX9_win_0 : decode cX9_win 0 = .ok (.iload_n 1, 1) := by decide +kernel
theorem dX9_win_1 : decode cX9_win 1 = .ok (.invokestatic 112, 3) := by decide +kernel
theorem dX9_win_4 : decode cX9_win 4 = .ok (.ifCond .eq 14, 3) := by decide +kernel
theorem dX9_win_7 : decode cX9_win 7 = .ok (.aload_n 0, 1) := by decide +kernel
theorem dX9_win_8 : decode cX9_win 8 = .ok (.getfield 12, 3) := by decide +kernel
theorem dX9_win_11 : decode cX9_win 11 = .ok (.iload_n 2, 1) := by decide +kernel
theorem dX9_win_12 : decode cX9_win 12 = .ok (.invokevirtual 115, 3) := by decide +kernel
theorem dX9_win_15 : decode cX9_win 15 = .ok (.ifCond .ne 6, 3) := by decide +kernel
theorem dX9_win_18 : decode cX9_win 18 = .ok (.bipush (-2), 2) := by decide +kernel
theorem dX9_win_20 : decode cX9_win 20 = .ok (.ireturn, 1) := by decide +kernel
theorem dX9_win_21 : decode cX9_win 21 = .ok (.aload_n 0, 1) := by decide +kernel
theorem dX9_win_22 : decode cX9_win 22 = .ok (.getfield 72, 3) := by decide +kernel
theorem dX9_win_25 : decode cX9_win 25 = .ok (.iload_n 1, 1) := by decide +kernel
theorem dX9_win_26 : decode cX9_win 26 = .ok (.invokevirtual 191, 3) := by decide +kernel
theorem dX9_win_29 : decode cX9_win 29 = .ok (.iload_n 2, 1) := by decide +kernel
theorem dX9_win_30 : decode cX9_win 30 = .ok (.baload, 1) := by decide +kernel
theorem dX9_win_31 : decode cX9_win 31 = .ok (.ireturn, 1) := by decide +kernel
theorem dX9_first_0 : decode cX9_first 0 = .ok (.iload_n 1, 1) := by decide +kernel
theorem dX9_first_1 : decode cX9_first 1 = .ok (.invokestatic 112, 3) := by decide +kernel
theorem dX9_first_4 : decode cX9_first 4 = .ok (.ifCond .eq 14, 3) := by decide +kernel
theorem dX9_first_7 : decode cX9_first 7 = .ok (.aload_n 0, 1) := by decide +kernel
theorem dX9_first_8 : decode cX9_first 8 = .ok (.getfield 12, 3) := by decide +kernel
theorem dX9_first_11 : decode cX9_first 11 = .ok (.iload_n 2, 1) := by decide +kernel
theorem dX9_first_12 : decode cX9_first 12 = .ok (.invokevirtual 115, 3) := by decide +kernel
theorem dX9_first_15 : decode cX9_first 15 = .ok (.ifCond .ne 6, 3) := by decide +kernel
theorem dX9_first_18 : decode cX9_first 18 = .ok (.bipush (-2), 2) := by decide +kernel
theorem dX9_first_20 : decode cX9_first 20 = .ok (.ireturn, 1) := by decide +kernel
theorem dX9_first_21 : decode cX9_first 21 = .ok (.aload_n 0, 1) := by decide +kernel
theorem dX9_first_22 : decode cX9_first 22 = .ok (.getfield 72, 3) := by decide +kernel
theorem dX9_first_25 : decode cX9_first 25 = .ok (.aload_n 0, 1) := by decide +kernel
theorem dX9_first_26 : decode cX9_first 26 = .ok (.getfield 72, 3) := by decide +kernel
theorem dX9_first_29 : decode cX9_first 29 = .ok (.iload_n 1, 1) := by decide +kernel
theorem dX9_first_30 : decode cX9_first 30 = .ok (.invokevirtual 191, 3) := by decide +kernel
theorem dX9_first_33 : decode cX9_first 33 = .ok (.aload_n 0, 1) := by decide +kernel
theorem dX9_first_34 : decode cX9_first 34 = .ok (.getfield 21, 3) := by decide +kernel
theorem dX9_first_37 : decode cX9_first 37 = .ok (.iload_n 1, 1) := by decide +kernel
theorem dX9_first_38 : decode cX9_first 38 = .ok (.invokevirtual 148, 3) := by decide +kernel
theorem dX9_first_41 : decode cX9_first 41 = .ok (.iload_n 2, 1) := by decide +kernel
theorem dX9_first_42 : decode cX9_first 42 = .ok (.invokevirtual 195, 3) := by decide +kernel
theorem dX9_first_45 : decode cX9_first 45 = .ok (.ireturn, 1) := by decide +kernel
theorem dX9_count_0 : decode cX9_count 0 = .ok (.aload_n 0, 1) := by decide +kernel
theorem dX9_count_1 : decode cX9_count 1 = .ok (.getfield 12, 3) := by decide +kernel
theorem dX9_count_4 : decode cX9_count 4 = .ok (.getfield 76, 3) := by decide +kernel
theorem dX9_count_7 : decode cX9_count 7 = .ok (.ireturn, 1) := by decide +kernel
theorem dX9_isRule_0 : decode cX9_isRule 0 = .ok (.iload_n 0, 1) := by decide +kernel
theorem dX9_isRule_1 : decode cX9_isRule 1 = .ok (.ifCond .lt 12, 3) := by decide +kernel
theorem dX9_isRule_4 : decode cX9_isRule 4 = .ok (.iload_n 0, 1) := by decide +kernel
theorem dX9_isRule_5 : decode cX9_isRule 5 = .ok (.iconst 3, 1) := by decide +kernel
theorem dX9_isRule_6 : decode cX9_isRule 6 = .ok (.if_icmp .ge 7, 3) := by decide +kernel
theorem dX9_isRule_9 : decode cX9_isRule 9 = .ok (.iconst 1, 1) := by decide +kernel
theorem dX9_isRule_10 : decode cX9_isRule 10 = .ok (.goto 4, 3) := by decide +kernel
theorem dX9_isRule_13 : decode cX9_isRule 13 = .ok (.iconst 0, 1) := by decide +kernel
theorem dX9_isRule_14 : decode cX9_isRule 14 = .ok (.ireturn, 1) := by decide +kernel
theorem dX9_isPlainRule_0 : decode cX9_isPlainRule 0 = .ok (.iload_n 0, 1) := by decide +kernel
theorem dX9_isPlainRule_1 : decode cX9_isPlainRule 1 = .ok (.ifCond .lt 12, 3) := by decide +kernel
theorem dX9_isPlainRule_4 : decode cX9_isPlainRule 4 = .ok (.iload_n 0, 1) := by decide +kernel
theorem dX9_isPlainRule_5 : decode cX9_isPlainRule 5 = .ok (.iconst 2, 1) := by decide +kernel
theorem dX9_isPlainRule_6 : decode cX9_isPlainRule 6 = .ok (.if_icmp .ge 7, 3) := by decide +kernel
theorem dX9_isPlainRule_9 : decode cX9_isPlainRule 9 = .ok (.iconst 1, 1) := by decide +kernel
theorem dX9_isPlainRule_10 : decode cX9_isPlainRule 10 = .ok (.goto 4, 3) := by decide +kernel
theorem dX9_isPlainRule_13 : decode cX9_isPlainRule 13 = .ok (.iconst 0, 1) := by decide +kernel
theorem dX9_isPlainRule_14 : decode cX9_isPlainRule 14 = .ok (.ireturn, 1) := by decide +kernel
theorem dX9_hasPost_0 : decode cX9_hasPost 0 = .ok (.iload_n 0, 1) := by decide +kernel
theorem dX9_hasPost_1 : decode cX9_hasPost 1 = .ok (.iload_n 1, 1) := by decide +kernel
theorem dX9_hasPost_2 : decode cX9_hasPost 2 = .ok (.ishr, 1) := by decide +kernel
theorem dX9_hasPost_3 : decode cX9_hasPost 3 = .ok (.iconst 1, 1) := by decide +kernel
theorem dX9_hasPost_4 : decode cX9_hasPost 4 = .ok (.iand, 1) := by decide +kernel
theorem dX9_hasPost_5 : decode cX9_hasPost 5 = .ok (.ifCond .eq 7, 3) := by decide +kernel
theorem dX9_hasPost_8 : decode cX9_hasPost 8 = .ok (.iconst 1, 1) := by decide +kernel
theorem dX9_hasPost_9 : decode cX9_hasPost 9 = .ok (.goto 4, 3) := by decide +kernel
theorem dX9_hasPost_12 : decode cX9_hasPost 12 = .ok (.iconst 0, 1) := by decide +kernel
theorem dX9_hasPost_13 : decode cX9_hasPost 13 = .ok (.ireturn, 1) := by decide +kernel
