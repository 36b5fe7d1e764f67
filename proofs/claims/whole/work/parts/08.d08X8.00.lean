theorem dX8_init_0 : decode cX8_init 0 = .ok (.aload_n 0, 1) := by decide +kernel
theorem dX8_init_1 : decode cX8_init 1 = .ok (.invokespecial 3, 3) := by decide +kernel
theorem dX8_init_4 : decode cX8_init 4 = .ok (.aload_n 0, 1) := by decide +kernel
theorem dX8_init_5 : decode cX8_init 5 = .ok (.sipush 4096, 3) := by decide +kernel
theorem dX8_init_8 : decode cX8_init 8 = .ok (.newarray .boolean, 2) := by decide +kernel
theorem dX8_init_10 : decode cX8_init 10 = .ok (.putfield 9, 3) := by decide +kernel
theorem dX8_init_13 : decode cX8_init 13 = .ok (.aload_n 0, 1) := by decide +kernel
theorem dX8_init_14 : decode cX8_init 14 = .ok (.aload_n 1, 1) := by decide +kernel
theorem dX8_init_15 : decode cX8_init 15 = .ok (.putfield 15, 3) := by decide +kernel
theorem dX8_init_18 : decode cX8_init 18 = .ok (.return_, 1) := by decide +kernel
theorem dX8_freshHolding_0 : decode cX8_freshHolding 0 = .ok (.aload_n 0, 1) := by decide +kernel
theorem dX8_freshHolding_1 : decode cX8_freshHolding 1 = .ok (.getfield 19, 3) := by decide +kernel
theorem dX8_freshHolding_4 : decode cX8_freshHolding 4 = .ok (.aload_n 0, 1) := by decide +kernel
theorem dX8_freshHolding_5 : decode cX8_freshHolding 5 = .ok (.getfield 15, 3) := by decide +kernel
theorem dX8_freshHolding_8 : decode cX8_freshHolding 8 = .ok (.getfield 23, 3) := by decide +kernel
theorem dX8_freshHolding_11 : decode cX8_freshHolding 11 = .ok (.if_icmp .eq 18, 3) := by decide +kernel
theorem dX8_freshHolding_14 : decode cX8_freshHolding 14 = .ok (.aload_n 0, 1) := by decide +kernel
theorem dX8_freshHolding_15 : decode cX8_freshHolding 15 = .ok (.invokevirtual 28, 3) := by decide +kernel
theorem dX8_freshHolding_18 : decode cX8_freshHolding 18 = .ok (.aload_n 0, 1) := by decide +kernel
theorem dX8_freshHolding_19 : decode cX8_freshHolding 19 = .ok (.aload_n 0, 1) := by decide +kernel
theorem dX8_freshHolding_20 : decode cX8_freshHolding 20 = .ok (.getfield 15, 3) := by decide +kernel
theorem dX8_freshHolding_23 : decode cX8_freshHolding 23 = .ok (.getfield 23, 3) := by decide +kernel
theorem dX8_freshHolding_26 : decode cX8_freshHolding 26 = .ok (.putfield 19, 3) := by decide +kernel
theorem dX8_freshHolding_29 : decode cX8_freshHolding 29 = .ok (.aload_n 0, 1) := by decide +kernel
theorem dX8_freshHolding_30 : decode cX8_freshHolding 30 = .ok (.getfield 9, 3) := by decide +kernel
theorem dX8_freshHolding_33 : decode cX8_freshHolding 33 = .ok (.areturn, 1) := by decide +kernel
theorem dX8_fillHolding_0 : decode cX8_fillHolding 0 = .ok (.aload_n 0, 1) := by decide +kernel
theorem dX8_fillHolding_1 : decode cX8_fillHolding 1 = .ok (.getfield 15, 3) := by decide +kernel
theorem dX8_fillHolding_4 : decode cX8_fillHolding 4 = .ok (.invokevirtual 31, 3) := by decide +kernel
theorem dX8_fillHolding_7 : decode cX8_fillHolding 7 = .ok (.istore_n 1, 1) := by decide +kernel
theorem dX8_fillHolding_8 : decode cX8_fillHolding 8 = .ok (.iconst 0, 1) := by decide +kernel
theorem dX8_fillHolding_9 : decode cX8_fillHolding 9 = .ok (.istore_n 2, 1) := by decide +kernel
theorem dX8_fillHolding_10 : decode cX8_fillHolding 10 = .ok (.iload_n 2, 1) := by decide +kernel
theorem dX8_fillHolding_11 : decode cX8_fillHolding 11 = .ok (.iload_n 1, 1) := by decide +kernel
theorem dX8_fillHolding_12 : decode cX8_fillHolding 12 = .ok (.if_icmp .gt 16, 3) := by decide +kernel
theorem dX8_fillHolding_15 : decode cX8_fillHolding 15 = .ok (.aload_n 0, 1) := by decide +kernel
theorem dX8_fillHolding_16 : decode cX8_fillHolding 16 = .ok (.getfield 9, 3) := by decide +kernel
theorem dX8_fillHolding_19 : decode cX8_fillHolding 19 = .ok (.iload_n 2, 1) := by decide +kernel
theorem dX8_fillHolding_20 : decode cX8_fillHolding 20 = .ok (.iconst 1, 1) := by decide +kernel
theorem dX8_fillHolding_21 : decode cX8_fillHolding 21 = .ok (.bastore, 1) := by decide +kernel
theorem dX8_fillHolding_22 : decode cX8_fillHolding 22 = .ok (.iinc 2 1, 3) := by decide +kernel
theorem dX8_fillHolding_25 : decode cX8_fillHolding 25 = .ok (.goto (-15), 3) := by decide +kernel
theorem dX8_fillHolding_28 : decode cX8_fillHolding 28 = .ok (.iconst 1, 1) := by decide +kernel
theorem dX8_fillHolding_29 : decode cX8_fillHolding 29 = .ok (.istore_n 2, 1) := by decide +kernel
theorem dX8_fillHolding_30 : decode cX8_fillHolding 30 = .ok (.iconst 0, 1) := by decide +kernel
theorem dX8_fillHolding_31 : decode cX8_fillHolding 31 = .ok (.istore_n 3, 1) := by decide +kernel
theorem dX8_fillHolding_32 : decode cX8_fillHolding 32 = .ok (.iload_n 3, 1) := by decide +kernel
theorem dX8_fillHolding_33 : decode cX8_fillHolding 33 = .ok (.sipush 4096, 3) := by decide +kernel
theorem dX8_fillHolding_36 : decode cX8_fillHolding 36 = .ok (.if_icmp .gt 19, 3) := by decide +kernel
theorem dX8_fillHolding_39 : decode cX8_fillHolding 39 = .ok (.iload_n 2, 1) := by decide +kernel
theorem dX8_fillHolding_40 : decode cX8_fillHolding 40 = .ok (.ifCond .eq 15, 3) := by decide +kernel
theorem dX8_fillHolding_43 : decode cX8_fillHolding 43 = .ok (.aload_n 0, 1) := by decide +kernel
theorem dX8_fillHolding_44 : decode cX8_fillHolding 44 = .ok (.iload_n 1, 1) := by decide +kernel
theorem dX8_fillHolding_45 : decode cX8_fillHolding 45 = .ok (.invokevirtual 35, 3) := by decide +kernel
theorem dX8_fillHolding_48 : decode cX8_fillHolding 48 = .ok (.istore_n 2, 1) := by decide +kernel
theorem dX8_fillHolding_49 : decode cX8_fillHolding 49 = .ok (.iinc 3 1, 3) := by decide +kernel
theorem dX8_fillHolding_52 : decode cX8_fillHolding 52 = .ok (.goto (-20), 3) := by decide +kernel
theorem dX8_fillHolding_55 : decode cX8_fillHolding 55 = .ok (.return_, 1) := by decide +kernel
theorem dX8_fewestHolding_0 : decode cX8_fewestHolding 0 = .ok (.aload_n 0, 1) := by decide +kernel
theorem dX8_fewestHolding_1 : decode cX8_fewestHolding 1 = .ok (.invokevirtual 39, 3) := by decide +kernel
theorem dX8_fewestHolding_4 : decode cX8_fewestHolding 4 = .ok (.astore_n 1, 1) := by decide +kernel
theorem dX8_fewestHolding_5 : decode cX8_fewestHolding 5 = .ok (.aload_n 0, 1) := by decide +kernel
theorem dX8_fewestHolding_6 : decode cX8_fewestHolding 6 = .ok (.getfield 15, 3) := by decide +kernel
theorem dX8_fewestHolding_9 : decode cX8_fewestHolding 9 = .ok (.invokevirtual 31, 3) := by decide +kernel
theorem dX8_fewestHolding_12 : decode cX8_fewestHolding 12 = .ok (.istore_n 2, 1) := by decide +kernel
theorem dX8_fewestHolding_13 : decode cX8_fewestHolding 13 = .ok (.aload_n 0, 1) := by decide +kernel
theorem dX8_fewestHolding_14 : decode cX8_fewestHolding 14 = .ok (.getfield 15, 3) := by decide +kernel
theorem dX8_fewestHolding_17 : decode cX8_fewestHolding 17 = .ok (.getfield 43, 3) := by decide +kernel
theorem dX8_fewestHolding_20 : decode cX8_fewestHolding 20 = .ok (.istore_n 3, 1) := by decide +kernel
theorem dX8_fewestHolding_21 : decode cX8_fewestHolding 21 = .ok (.iconst 0, 1) := by decide +kernel
theorem dX8_fewestHolding_22 : decode cX8_fewestHolding 22 = .ok (.istore 4, 2) := by decide +kernel
theorem dX8_fewestHolding_24 : decode cX8_fewestHolding 24 = .ok (.iload 4, 2) := by decide +kernel
theorem dX8_fewestHolding_26 : decode cX8_fewestHolding 26 = .ok (.iload_n 2, 1) := by decide +kernel
theorem dX8_fewestHolding_27 : decode cX8_fewestHolding 27 = .ok (.if_icmp .gt 26, 3) := by decide +kernel
theorem dX8_fewestHolding_30 : decode cX8_fewestHolding 30 = .ok (.aload_n 1, 1) := by decide +kernel
theorem dX8_fewestHolding_31 : decode cX8_fewestHolding 31 = .ok (.iload 4, 2) := by decide +kernel
theorem dX8_fewestHolding_33 : decode cX8_fewestHolding 33 = .ok (.baload, 1) := by decide +kernel
theorem dX8_fewestHolding_34 : decode cX8_fewestHolding 34 = .ok (.ifCond .eq 13, 3) := by decide +kernel
theorem dX8_fewestHolding_37 : decode cX8_fewestHolding 37 = .ok (.iload_n 3, 1) := by decide +kernel
theorem dX8_fewestHolding_38 : decode cX8_fewestHolding 38 = .ok (.iload 4, 2) := by decide +kernel
theorem dX8_fewestHolding_40 : decode cX8_fewestHolding 40 = .ok (.invokestatic 46, 3) := by decide +kernel
theorem dX8_fewestHolding_43 : decode cX8_fewestHolding 43 = .ok (.invokestatic 52, 3) := by decide +kernel
theorem dX8_fewestHolding_46 : decode cX8_fewestHolding 46 = .ok (.istore_n 3, 1) := by decide +kernel
theorem dX8_fewestHolding_47 : decode cX8_fewestHolding 47 = .ok (.iinc 4 1, 3) := by decide +kernel
theorem dX8_fewestHolding_50 : decode cX8_fewestHolding 50 = .ok (.goto (-26), 3) := by decide +kernel
theorem dX8_fewestHolding_53 : decode cX8_fewestHolding 53 = .ok (.iload_n 3, 1) := by decide +kernel
theorem dX8_fewestHolding_54 : decode cX8_fewestHolding 54 = .ok (.ireturn, 1) := by decide +kernel
theorem dX8_answerFrom_0 : decode cX8_answerFrom 0 = .ok (.aload_n 0, 1) := by decide +kernel
theorem dX8_answerFrom_1 : decode cX8_answerFrom 1 = .ok (.invokevirtual 39, 3) := by decide +kernel
theorem dX8_answerFrom_4 : decode cX8_answerFrom 4 = .ok (.iload_n 1, 1) := by decide +kernel
theorem dX8_answerFrom_5 : decode cX8_answerFrom 5 = .ok (.baload, 1) := by decide +kernel
theorem dX8_answerFrom_6 : decode cX8_answerFrom 6 = .ok (.istore_n 3, 1) := by decide +kernel
theorem dX8_answerFrom_7 : decode cX8_answerFrom 7 = .ok (.iload_n 1, 1) := by decide +kernel
theorem dX8_answerFrom_8 : decode cX8_answerFrom 8 = .ok (.iload_n 2, 1) := by decide +kernel
theorem dX8_answerFrom_9 : decode cX8_answerFrom 9 = .ok (.invokestatic 58, 3) := by decide +kernel
theorem dX8_answerFrom_12 : decode cX8_answerFrom 12 = .ok (.ifCond .ne 7, 3) := by decide +kernel
theorem dX8_answerFrom_15 : decode cX8_answerFrom 15 = .ok (.iload_n 3, 1) := by decide +kernel
theorem dX8_answerFrom_16 : decode cX8_answerFrom 16 = .ok (.ifCond .ne 7, 3) := by decide +kernel
theorem dX8_answerFrom_19 : decode cX8_answerFrom 19 = .ok (.iconst (-1), 1) := by decide +kernel
theorem dX8_answerFrom_20 : decode cX8_answerFrom 20 = .ok (.goto 9, 3) := by decide +kernel
theorem dX8_answerFrom_23 : decode cX8_answerFrom 23 = .ok (.aload_n 0, 1) := by decide +kernel
theorem dX8_answerFrom_24 : decode cX8_answerFrom 24 = .ok (.iload_n 1, 1) := by decide +kernel
theorem dX8_answerFrom_25 : decode cX8_answerFrom 25 = .ok (.iload_n 2, 1) := by decide +kernel
theorem dX8_answerFrom_26 : decode cX8_answerFrom 26 = .ok (.invokevirtual 62, 3) := by decide +kernel
theorem dX8_answerFrom_29 : decode cX8_answerFrom 29 = .ok (.ireturn, 1) := by decide +kernel
theorem dX8_leastAnswer_0 : decode cX8_leastAnswer 0 = .ok (.iload_n 1, 1) := by decide +kernel
theorem dX8_leastAnswer_1 : decode cX8_leastAnswer 1 = .ok (.aload_n 0, 1) := by decide +kernel
theorem dX8_leastAnswer_2 : decode cX8_leastAnswer 2 = .ok (.getfield 15, 3) := by decide +kernel
theorem dX8_leastAnswer_5 : decode cX8_leastAnswer 5 = .ok (.getfield 65, 3) := by decide +kernel
theorem dX8_leastAnswer_8 : decode cX8_leastAnswer 8 = .ok (.iload_n 2, 1) := by decide +kernel
theorem dX8_leastAnswer_9 : decode cX8_leastAnswer 9 = .ok (.iaload, 1) := by decide +kernel
theorem dX8_leastAnswer_10 : decode cX8_leastAnswer 10 = .ok (.iand, 1) := by decide +kernel
theorem dX8_leastAnswer_11 : decode cX8_leastAnswer 11 = .ok (.istore_n 3, 1) := by decide +kernel
theorem dX8_leastAnswer_12 : decode cX8_leastAnswer 12 = .ok (.iconst 0, 1) := by decide +kernel
theorem dX8_leastAnswer_13 : decode cX8_leastAnswer 13 = .ok (.istore 4, 2) := by decide +kernel
theorem dX8_leastAnswer_15 : decode cX8_leastAnswer 15 = .ok (.iload 4, 2) := by decide +kernel
theorem dX8_leastAnswer_17 : decode cX8_leastAnswer 17 = .ok (.aload_n 0, 1) := by decide +kernel
theorem dX8_leastAnswer_18 : decode cX8_leastAnswer 18 = .ok (.getfield 15, 3) := by decide +kernel
theorem dX8_leastAnswer_21 : decode cX8_leastAnswer 21 = .ok (.getfield 43, 3) := by decide +kernel
theorem dX8_leastAnswer_24 : decode cX8_leastAnswer 24 = .ok (.if_icmp .ge 48, 3) := by decide +kernel
theorem dX8_leastAnswer_27 : decode cX8_leastAnswer 27 = .ok (.iload_n 3, 1) := by decide +kernel
theorem dX8_leastAnswer_28 : decode cX8_leastAnswer 28 = .ok (.iload 4, 2) := by decide +kernel
theorem dX8_leastAnswer_30 : decode cX8_leastAnswer 30 = .ok (.ishr, 1) := by decide +kernel
theorem dX8_leastAnswer_31 : decode cX8_leastAnswer 31 = .ok (.ifCond .eq 41, 3) := by decide +kernel
theorem dX8_leastAnswer_34 : decode cX8_leastAnswer 34 = .ok (.iload_n 3, 1) := by decide +kernel
theorem dX8_leastAnswer_35 : decode cX8_leastAnswer 35 = .ok (.iload 4, 2) := by decide +kernel
theorem dX8_leastAnswer_37 : decode cX8_leastAnswer 37 = .ok (.invokestatic 58, 3) := by decide +kernel
theorem dX8_leastAnswer_40 : decode cX8_leastAnswer 40 = .ok (.ifCond .eq 26, 3) := by decide +kernel
theorem dX8_leastAnswer_43 : decode cX8_leastAnswer 43 = .ok (.aload_n 0, 1) := by decide +kernel
theorem dX8_leastAnswer_44 : decode cX8_leastAnswer 44 = .ok (.getfield 9, 3) := by decide +kernel
theorem dX8_leastAnswer_47 : decode cX8_leastAnswer 47 = .ok (.iload_n 1, 1) := by decide +kernel
theorem dX8_leastAnswer_48 : decode cX8_leastAnswer 48 = .ok (.iconst 1, 1) := by decide +kernel
theorem dX8_leastAnswer_49 : decode cX8_leastAnswer 49 = .ok (.iload 4, 2) := by decide +kernel
theorem dX8_leastAnswer_51 : decode cX8_leastAnswer 51 = .ok (.ishl, 1) := by decide +kernel
theorem dX8_leastAnswer_52 : decode cX8_leastAnswer 52 = .ok (.iconst (-1), 1) := by decide +kernel
theorem dX8_leastAnswer_53 : decode cX8_leastAnswer 53 = .ok (.ixor, 1) := by decide +kernel
theorem dX8_leastAnswer_54 : decode cX8_leastAnswer 54 = .ok (.iand, 1) := by decide +kernel
theorem dX8_leastAnswer_55 : decode cX8_leastAnswer 55 = .ok (.iconst 1, 1) := by decide +kernel
theorem dX8_leastAnswer_56 : decode cX8_leastAnswer 56 = .ok (.iload_n 2, 1) := by decide +kernel
theorem dX8_leastAnswer_57 : decode cX8_leastAnswer 57 = .ok (.ishl, 1) := by decide +kernel
theorem dX8_leastAnswer_58 : decode cX8_leastAnswer 58 = .ok (.ior, 1) := by decide +kernel
theorem dX8_leastAnswer_59 : decode cX8_leastAnswer 59 = .ok (.baload, 1) := by decide +kernel
theorem dX8_leastAnswer_60 : decode cX8_leastAnswer 60 = .ok (.ifCond .eq 6, 3) := by decide +kernel
theorem dX8_leastAnswer_63 : decode cX8_leastAnswer 63 = .ok (.iload 4, 2) := by decide +kernel
theorem dX8_leastAnswer_65 : decode cX8_leastAnswer 65 = .ok (.ireturn, 1) := by decide +kernel
theorem dX8_leastAnswer_66 : decode cX8_leastAnswer 66 = .ok (.iinc 4 1, 3) := by decide +kernel
theorem dX8_leastAnswer_69 : decode cX8_leastAnswer 69 = .ok (.goto (-54), 3) := by decide +kernel
theorem dX8_leastAnswer_72 : decode cX8_leastAnswer 72 = .ok (.iconst (-1), 1) := by decide +kernel
theorem dX8_leastAnswer_73 : decode cX8_leastAnswer 73 = .ok (.ireturn, 1) := by decide +kernel
theorem dX8_takeFailingAway_0 : decode cX8_takeFailingAway 0 = .ok (.iconst 0, 1) := by decide +kernel
theorem dX8_takeFailingAway_1 : decode cX8_takeFailingAway 1 = .ok (.istore_n 2, 1) := by decide +kernel
theorem dX8_takeFailingAway_2 : decode cX8_takeFailingAway 2 = .ok (.iconst 0, 1) := by decide +kernel
theorem dX8_takeFailingAway_3 : decode cX8_takeFailingAway 3 = .ok (.istore_n 3, 1) := by decide +kernel
theorem dX8_takeFailingAway_4 : decode cX8_takeFailingAway 4 = .ok (.iload_n 3, 1) := by decide +kernel
theorem dX8_takeFailingAway_5 : decode cX8_takeFailingAway 5 = .ok (.iload_n 1, 1) := by decide +kernel
theorem dX8_takeFailingAway_6 : decode cX8_takeFailingAway 6 = .ok (.if_icmp .gt 35, 3) := by decide +kernel
theorem dX8_takeFailingAway_9 : decode cX8_takeFailingAway 9 = .ok (.aload_n 0, 1) := by decide +kernel
theorem dX8_takeFailingAway_10 : decode cX8_takeFailingAway 10 = .ok (.getfield 9, 3) := by decide +kernel
theorem dX8_takeFailingAway_13 : decode cX8_takeFailingAway 13 = .ok (.iload_n 3, 1) := by decide +kernel
theorem dX8_takeFailingAway_14 : decode cX8_takeFailingAway 14 = .ok (.baload, 1) := by decide +kernel
theorem dX8_takeFailingAway_15 : decode cX8_takeFailingAway 15 = .ok (.ifCond .eq 20, 3) := by decide +kernel
theorem dX8_takeFailingAway_18 : decode cX8_takeFailingAway 18 = .ok (.aload_n 0, 1) := by decide +kernel
theorem dX8_takeFailingAway_19 : decode cX8_takeFailingAway 19 = .ok (.iload_n 3, 1) := by decide +kernel
theorem dX8_takeFailingAway_20 : decode cX8_takeFailingAway 20 = .ok (.invokevirtual 69, 3) := by decide +kernel
theorem dX8_takeFailingAway_23 : decode cX8_takeFailingAway 23 = .ok (.ifCond .ne 12, 3) := by decide +kernel
theorem dX8_takeFailingAway_26 : decode cX8_takeFailingAway 26 = .ok (.aload_n 0, 1) := by decide +kernel
theorem dX8_takeFailingAway_27 : decode cX8_takeFailingAway 27 = .ok (.getfield 9, 3) := by decide +kernel
theorem dX8_takeFailingAway_30 : decode cX8_takeFailingAway 30 = .ok (.iload_n 3, 1) := by decide +kernel
theorem dX8_takeFailingAway_31 : decode cX8_takeFailingAway 31 = .ok (.iconst 0, 1) := by decide +kernel
theorem dX8_takeFailingAway_32 : decode cX8_takeFailingAway 32 = .ok (.bastore, 1) := by decide +kernel
theorem dX8_takeFailingAway_33 : decode cX8_takeFailingAway 33 = .ok (.iconst 1, 1) := by decide +kernel
theorem dX8_takeFailingAway_34 : decode cX8_takeFailingAway 34 = .ok (.istore_n 2, 1) := by decide +kernel
theorem dX8_takeFailingAway_35 : decode cX8_takeFailingAway 35 = .ok (.iinc 3 1, 3) := by decide +kernel
theorem dX8_takeFailingAway_38 : decode cX8_takeFailingAway 38 = .ok (.goto (-34), 3) := by decide +kernel
theorem dX8_takeFailingAway_41 : decode cX8_takeFailingAway 41 = .ok (.iload_n 2, 1) := by decide +kernel
theorem dX8_takeFailingAway_42 : decode cX8_takeFailingAway 42 = .ok (.ireturn, 1) := by decide +kernel
theorem dX8_answersAll_0 : decode cX8_answersAll 0 = .ok (.iconst 0, 1) := by decide +kernel
theorem dX8_answersAll_1 : decode cX8_answersAll 1 = .ok (.istore_n 2, 1) := by decide +kernel
theorem dX8_answersAll_2 : decode cX8_answersAll 2 = .ok (.iload_n 2, 1) := by decide +kernel
theorem dX8_answersAll_3 : decode cX8_answersAll 3 = .ok (.aload_n 0, 1) := by decide +kernel
theorem dX8_answersAll_4 : decode cX8_answersAll 4 = .ok (.getfield 15, 3) := by decide +kernel
theorem dX8_answersAll_7 : decode cX8_answersAll 7 = .ok (.getfield 43, 3) := by decide +kernel
theorem dX8_answersAll_10 : decode cX8_answersAll 10 = .ok (.if_icmp .ge 29, 3) := by decide +kernel
theorem dX8_answersAll_13 : decode cX8_answersAll 13 = .ok (.iload_n 1, 1) := by decide +kernel
theorem dX8_answersAll_14 : decode cX8_answersAll 14 = .ok (.iload_n 2, 1) := by decide +kernel
theorem dX8_answersAll_15 : decode cX8_answersAll 15 = .ok (.invokestatic 58, 3) := by decide +kernel
theorem dX8_answersAll_18 : decode cX8_answersAll 18 = .ok (.ifCond .ne 15, 3) := by decide +kernel
theorem dX8_answersAll_21 : decode cX8_answersAll 21 = .ok (.aload_n 0, 1) := by decide +kernel
theorem dX8_answersAll_22 : decode cX8_answersAll 22 = .ok (.iload_n 1, 1) := by decide +kernel
theorem dX8_answersAll_23 : decode cX8_answersAll 23 = .ok (.iload_n 2, 1) := by decide +kernel
theorem dX8_answersAll_24 : decode cX8_answersAll 24 = .ok (.invokevirtual 62, 3) := by decide +kernel
theorem dX8_answersAll_27 : decode cX8_answersAll 27 = .ok (.iconst (-1), 1) := by decide +kernel
theorem dX8_answersAll_28 : decode cX8_answersAll 28 = .ok (.if_icmp .ne 5, 3) := by decide +kernel
theorem dX8_answersAll_31 : decode cX8_answersAll 31 = .ok (.iconst 0, 1) := by decide +kernel
theorem dX8_answersAll_32 : decode cX8_answersAll 32 = .ok (.ireturn, 1) := by decide +kernel
theorem dX8_answersAll_33 : decode cX8_answersAll 33 = .ok (.iinc 2 1, 3) := by decide +kernel
theorem dX8_answersAll_36 : decode cX8_answersAll 36 = .ok (.goto (-34), 3) := by decide +kernel
theorem dX8_answersAll_39 : decode cX8_answersAll 39 = .ok (.iconst 1, 1) := by decide +kernel
theorem dX8_answersAll_40 : decode cX8_answersAll 40 = .ok (.ireturn, 1) := by decide +kernel
