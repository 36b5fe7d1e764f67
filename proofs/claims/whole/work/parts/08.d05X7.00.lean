theorem dX7_init_0 : decode cX7_init 0 = .ok (.aload_n 0, 1) := by decide +kernel
theorem dX7_init_1 : decode cX7_init 1 = .ok (.invokespecial 3, 3) := by decide +kernel
theorem dX7_init_4 : decode cX7_init 4 = .ok (.aload_n 0, 1) := by decide +kernel
theorem dX7_init_5 : decode cX7_init 5 = .ok (.sipush 4096, 3) := by decide +kernel
theorem dX7_init_8 : decode cX7_init 8 = .ok (.newarray .int, 2) := by decide +kernel
theorem dX7_init_10 : decode cX7_init 10 = .ok (.putfield 9, 3) := by decide +kernel
theorem dX7_init_13 : decode cX7_init 13 = .ok (.aload_n 0, 1) := by decide +kernel
theorem dX7_init_14 : decode cX7_init 14 = .ok (.iconst 2, 1) := by decide +kernel
theorem dX7_init_15 : decode cX7_init 15 = .ok (.newarray .int, 2) := by decide +kernel
theorem dX7_init_17 : decode cX7_init 17 = .ok (.putfield 15, 3) := by decide +kernel
theorem dX7_init_20 : decode cX7_init 20 = .ok (.aload_n 0, 1) := by decide +kernel
theorem dX7_init_21 : decode cX7_init 21 = .ok (.iconst 2, 1) := by decide +kernel
theorem dX7_init_22 : decode cX7_init 22 = .ok (.newarray .int, 2) := by decide +kernel
theorem dX7_init_24 : decode cX7_init 24 = .ok (.putfield 18, 3) := by decide +kernel
theorem dX7_init_27 : decode cX7_init 27 = .ok (.aload_n 0, 1) := by decide +kernel
theorem dX7_init_28 : decode cX7_init 28 = .ok (.aload_n 1, 1) := by decide +kernel
theorem dX7_init_29 : decode cX7_init 29 = .ok (.putfield 21, 3) := by decide +kernel
theorem dX7_init_32 : decode cX7_init 32 = .ok (.aload_n 0, 1) := by decide +kernel
theorem dX7_init_33 : decode cX7_init 33 = .ok (.aload_n 2, 1) := by decide +kernel
theorem dX7_init_34 : decode cX7_init 34 = .ok (.putfield 25, 3) := by decide +kernel
theorem dX7_init_37 : decode cX7_init 37 = .ok (.return_, 1) := by decide +kernel
theorem dX7_isFort_0 : decode cX7_isFort 0 = .ok (.iload_n 2, 1) := by decide +kernel
theorem dX7_isFort_1 : decode cX7_isFort 1 = .ok (.ifCond .eq 24, 3) := by decide +kernel
theorem dX7_isFort_4 : decode cX7_isFort 4 = .ok (.aload_n 0, 1) := by decide +kernel
theorem dX7_isFort_5 : decode cX7_isFort 5 = .ok (.aload_n 0, 1) := by decide +kernel
theorem dX7_isFort_6 : decode cX7_isFort 6 = .ok (.getfield 25, 3) := by decide +kernel
theorem dX7_isFort_9 : decode cX7_isFort 9 = .ok (.iload_n 1, 1) := by decide +kernel
theorem dX7_isFort_10 : decode cX7_isFort 10 = .ok (.invokevirtual 29, 3) := by decide +kernel
theorem dX7_isFort_13 : decode cX7_isFort 13 = .ok (.iload_n 2, 1) := by decide +kernel
theorem dX7_isFort_14 : decode cX7_isFort 14 = .ok (.invokevirtual 35, 3) := by decide +kernel
theorem dX7_isFort_17 : decode cX7_isFort 17 = .ok (.iload_n 2, 1) := by decide +kernel
theorem dX7_isFort_18 : decode cX7_isFort 18 = .ok (.if_icmp .ne 7, 3) := by decide +kernel
theorem dX7_isFort_21 : decode cX7_isFort 21 = .ok (.iconst 1, 1) := by decide +kernel
theorem dX7_isFort_22 : decode cX7_isFort 22 = .ok (.goto 4, 3) := by decide +kernel
theorem dX7_isFort_25 : decode cX7_isFort 25 = .ok (.iconst 0, 1) := by decide +kernel
theorem dX7_isFort_26 : decode cX7_isFort 26 = .ok (.ireturn, 1) := by decide +kernel
theorem dX7_fortsWithin_0 : decode cX7_fortsWithin 0 = .ok (.aload_n 0, 1) := by decide +kernel
theorem dX7_fortsWithin_1 : decode cX7_fortsWithin 1 = .ok (.getfield 21, 3) := by decide +kernel
theorem dX7_fortsWithin_4 : decode cX7_fortsWithin 4 = .ok (.invokevirtual 39, 3) := by decide +kernel
theorem dX7_fortsWithin_7 : decode cX7_fortsWithin 7 = .ok (.istore_n 3, 1) := by decide +kernel
theorem dX7_fortsWithin_8 : decode cX7_fortsWithin 8 = .ok (.iload_n 3, 1) := by decide +kernel
theorem dX7_fortsWithin_9 : decode cX7_fortsWithin 9 = .ok (.aload_n 1, 1) := by decide +kernel
theorem dX7_fortsWithin_10 : decode cX7_fortsWithin 10 = .ok (.iload_n 3, 1) := by decide +kernel
theorem dX7_fortsWithin_11 : decode cX7_fortsWithin 11 = .ok (.iload_n 2, 1) := by decide +kernel
theorem dX7_fortsWithin_12 : decode cX7_fortsWithin 12 = .ok (.iconst (-1), 1) := by decide +kernel
theorem dX7_fortsWithin_13 : decode cX7_fortsWithin 13 = .ok (.ixor, 1) := by decide +kernel
theorem dX7_fortsWithin_14 : decode cX7_fortsWithin 14 = .ok (.iand, 1) := by decide +kernel
theorem dX7_fortsWithin_15 : decode cX7_fortsWithin 15 = .ok (.iaload, 1) := by decide +kernel
theorem dX7_fortsWithin_16 : decode cX7_fortsWithin 16 = .ok (.iconst (-1), 1) := by decide +kernel
theorem dX7_fortsWithin_17 : decode cX7_fortsWithin 17 = .ok (.ixor, 1) := by decide +kernel
theorem dX7_fortsWithin_18 : decode cX7_fortsWithin 18 = .ok (.iand, 1) := by decide +kernel
theorem dX7_fortsWithin_19 : decode cX7_fortsWithin 19 = .ok (.ireturn, 1) := by decide +kernel
theorem dX7_leastFort_0 : decode cX7_leastFort 0 = .ok (.aload_n 0, 1) := by decide +kernel
theorem dX7_leastFort_1 : decode cX7_leastFort 1 = .ok (.getfield 25, 3) := by decide +kernel
theorem dX7_leastFort_4 : decode cX7_leastFort 4 = .ok (.iload_n 1, 1) := by decide +kernel
theorem dX7_leastFort_5 : decode cX7_leastFort 5 = .ok (.invokevirtual 29, 3) := by decide +kernel
theorem dX7_leastFort_8 : decode cX7_leastFort 8 = .ok (.astore_n 3, 1) := by decide +kernel
theorem dX7_leastFort_9 : decode cX7_leastFort 9 = .ok (.aload_n 0, 1) := by decide +kernel
theorem dX7_leastFort_10 : decode cX7_leastFort 10 = .ok (.getfield 21, 3) := by decide +kernel
theorem dX7_leastFort_13 : decode cX7_leastFort 13 = .ok (.invokevirtual 39, 3) := by decide +kernel
theorem dX7_leastFort_16 : decode cX7_leastFort 16 = .ok (.istore 4, 2) := by decide +kernel
theorem dX7_leastFort_18 : decode cX7_leastFort 18 = .ok (.iconst 0, 1) := by decide +kernel
theorem dX7_leastFort_19 : decode cX7_leastFort 19 = .ok (.istore 5, 2) := by decide +kernel
theorem dX7_leastFort_21 : decode cX7_leastFort 21 = .ok (.iconst 1, 1) := by decide +kernel
theorem dX7_leastFort_22 : decode cX7_leastFort 22 = .ok (.istore 6, 2) := by decide +kernel
theorem dX7_leastFort_24 : decode cX7_leastFort 24 = .ok (.iload 6, 2) := by decide +kernel
theorem dX7_leastFort_26 : decode cX7_leastFort 26 = .ok (.aload_n 0, 1) := by decide +kernel
theorem dX7_leastFort_27 : decode cX7_leastFort 27 = .ok (.getfield 21, 3) := by decide +kernel
theorem dX7_leastFort_30 : decode cX7_leastFort 30 = .ok (.getfield 45, 3) := by decide +kernel
theorem dX7_leastFort_33 : decode cX7_leastFort 33 = .ok (.if_icmp .gt 57, 3) := by decide +kernel
theorem dX7_leastFort_36 : decode cX7_leastFort 36 = .ok (.iconst 1, 1) := by decide +kernel
theorem dX7_leastFort_37 : decode cX7_leastFort 37 = .ok (.istore 7, 2) := by decide +kernel
theorem dX7_leastFort_39 : decode cX7_leastFort 39 = .ok (.iload 7, 2) := by decide +kernel
theorem dX7_leastFort_41 : decode cX7_leastFort 41 = .ok (.iload 4, 2) := by decide +kernel
theorem dX7_leastFort_43 : decode cX7_leastFort 43 = .ok (.if_icmp .gt 41, 3) := by decide +kernel
theorem dX7_leastFort_46 : decode cX7_leastFort 46 = .ok (.aload_n 0, 1) := by decide +kernel
theorem dX7_leastFort_47 : decode cX7_leastFort 47 = .ok (.aload_n 3, 1) := by decide +kernel
theorem dX7_leastFort_48 : decode cX7_leastFort 48 = .ok (.iload 7, 2) := by decide +kernel
theorem dX7_leastFort_50 : decode cX7_leastFort 50 = .ok (.invokevirtual 49, 3) := by decide +kernel
theorem dX7_leastFort_53 : decode cX7_leastFort 53 = .ok (.ifCond .eq 25, 3) := by decide +kernel
theorem dX7_leastFort_56 : decode cX7_leastFort 56 = .ok (.iload 7, 2) := by decide +kernel
theorem dX7_leastFort_58 : decode cX7_leastFort 58 = .ok (.invokestatic 53, 3) := by decide +kernel
theorem dX7_leastFort_61 : decode cX7_leastFort 61 = .ok (.iload 6, 2) := by decide +kernel
theorem dX7_leastFort_63 : decode cX7_leastFort 63 = .ok (.if_icmp .ne 15, 3) := by decide +kernel
theorem dX7_leastFort_66 : decode cX7_leastFort 66 = .ok (.iload 5, 2) := by decide +kernel
theorem dX7_leastFort_68 : decode cX7_leastFort 68 = .ok (.iload_n 2, 1) := by decide +kernel
theorem dX7_leastFort_69 : decode cX7_leastFort 69 = .ok (.if_icmp .ne 6, 3) := by decide +kernel
theorem dX7_leastFort_72 : decode cX7_leastFort 72 = .ok (.iload 7, 2) := by decide +kernel
theorem dX7_leastFort_74 : decode cX7_leastFort 74 = .ok (.ireturn, 1) := by decide +kernel
theorem dX7_leastFort_75 : decode cX7_leastFort 75 = .ok (.iinc 5 1, 3) := by decide +kernel
theorem dX7_leastFort_78 : decode cX7_leastFort 78 = .ok (.iinc 7 1, 3) := by decide +kernel
theorem dX7_leastFort_81 : decode cX7_leastFort 81 = .ok (.goto (-42), 3) := by decide +kernel
theorem dX7_leastFort_84 : decode cX7_leastFort 84 = .ok (.iinc 6 1, 3) := by decide +kernel
theorem dX7_leastFort_87 : decode cX7_leastFort 87 = .ok (.goto (-63), 3) := by decide +kernel
theorem dX7_leastFort_90 : decode cX7_leastFort 90 = .ok (.iconst (-1), 1) := by decide +kernel
theorem dX7_leastFort_91 : decode cX7_leastFort 91 = .ok (.ireturn, 1) := by decide +kernel
theorem dX7_isLeast_0 : decode cX7_isLeast 0 = .ok (.aload_n 0, 1) := by decide +kernel
theorem dX7_isLeast_1 : decode cX7_isLeast 1 = .ok (.aload_n 1, 1) := by decide +kernel
theorem dX7_isLeast_2 : decode cX7_isLeast 2 = .ok (.iload_n 2, 1) := by decide +kernel
theorem dX7_isLeast_3 : decode cX7_isLeast 3 = .ok (.invokevirtual 35, 3) := by decide +kernel
theorem dX7_isLeast_6 : decode cX7_isLeast 6 = .ok (.iload_n 2, 1) := by decide +kernel
theorem dX7_isLeast_7 : decode cX7_isLeast 7 = .ok (.if_icmp .eq 5, 3) := by decide +kernel
theorem dX7_isLeast_10 : decode cX7_isLeast 10 = .ok (.iconst 0, 1) := by decide +kernel
theorem dX7_isLeast_11 : decode cX7_isLeast 11 = .ok (.ireturn, 1) := by decide +kernel
theorem dX7_isLeast_12 : decode cX7_isLeast 12 = .ok (.iconst 0, 1) := by decide +kernel
theorem dX7_isLeast_13 : decode cX7_isLeast 13 = .ok (.istore_n 3, 1) := by decide +kernel
theorem dX7_isLeast_14 : decode cX7_isLeast 14 = .ok (.iload_n 3, 1) := by decide +kernel
theorem dX7_isLeast_15 : decode cX7_isLeast 15 = .ok (.aload_n 0, 1) := by decide +kernel
theorem dX7_isLeast_16 : decode cX7_isLeast 16 = .ok (.getfield 21, 3) := by decide +kernel
theorem dX7_isLeast_19 : decode cX7_isLeast 19 = .ok (.getfield 45, 3) := by decide +kernel
theorem dX7_isLeast_22 : decode cX7_isLeast 22 = .ok (.if_icmp .ge 34, 3) := by decide +kernel
theorem dX7_isLeast_25 : decode cX7_isLeast 25 = .ok (.iload_n 2, 1) := by decide +kernel
theorem dX7_isLeast_26 : decode cX7_isLeast 26 = .ok (.iload_n 3, 1) := by decide +kernel
theorem dX7_isLeast_27 : decode cX7_isLeast 27 = .ok (.invokestatic 59, 3) := by decide +kernel
theorem dX7_isLeast_30 : decode cX7_isLeast 30 = .ok (.ifCond .eq 20, 3) := by decide +kernel
theorem dX7_isLeast_33 : decode cX7_isLeast 33 = .ok (.aload_n 0, 1) := by decide +kernel
theorem dX7_isLeast_34 : decode cX7_isLeast 34 = .ok (.aload_n 1, 1) := by decide +kernel
theorem dX7_isLeast_35 : decode cX7_isLeast 35 = .ok (.iload_n 2, 1) := by decide +kernel
theorem dX7_isLeast_36 : decode cX7_isLeast 36 = .ok (.iconst 1, 1) := by decide +kernel
theorem dX7_isLeast_37 : decode cX7_isLeast 37 = .ok (.iload_n 3, 1) := by decide +kernel
theorem dX7_isLeast_38 : decode cX7_isLeast 38 = .ok (.ishl, 1) := by decide +kernel
theorem dX7_isLeast_39 : decode cX7_isLeast 39 = .ok (.iconst (-1), 1) := by decide +kernel
theorem dX7_isLeast_40 : decode cX7_isLeast 40 = .ok (.ixor, 1) := by decide +kernel
theorem dX7_isLeast_41 : decode cX7_isLeast 41 = .ok (.iand, 1) := by decide +kernel
theorem dX7_isLeast_42 : decode cX7_isLeast 42 = .ok (.invokevirtual 35, 3) := by decide +kernel
theorem dX7_isLeast_45 : decode cX7_isLeast 45 = .ok (.ifCond .eq 5, 3) := by decide +kernel
theorem dX7_isLeast_48 : decode cX7_isLeast 48 = .ok (.iconst 0, 1) := by decide +kernel
theorem dX7_isLeast_49 : decode cX7_isLeast 49 = .ok (.ireturn, 1) := by decide +kernel
theorem dX7_isLeast_50 : decode cX7_isLeast 50 = .ok (.iinc 3 1, 3) := by decide +kernel
theorem dX7_isLeast_53 : decode cX7_isLeast 53 = .ok (.goto (-39), 3) := by decide +kernel
theorem dX7_isLeast_56 : decode cX7_isLeast 56 = .ok (.iconst 1, 1) := by decide +kernel
theorem dX7_isLeast_57 : decode cX7_isLeast 57 = .ok (.ireturn, 1) := by decide +kernel
theorem dX7_mostApart_0 : decode cX7_mostApart 0 = .ok (.aload_n 0, 1) := by decide +kernel
theorem dX7_mostApart_1 : decode cX7_mostApart 1 = .ok (.getfield 18, 3) := by decide +kernel
theorem dX7_mostApart_4 : decode cX7_mostApart 4 = .ok (.iload_n 1, 1) := by decide +kernel
theorem dX7_mostApart_5 : decode cX7_mostApart 5 = .ok (.iaload, 1) := by decide +kernel
theorem dX7_mostApart_6 : decode cX7_mostApart 6 = .ok (.aload_n 0, 1) := by decide +kernel
theorem dX7_mostApart_7 : decode cX7_mostApart 7 = .ok (.getfield 21, 3) := by decide +kernel
theorem dX7_mostApart_10 : decode cX7_mostApart 10 = .ok (.iload_n 1, 1) := by decide +kernel
theorem dX7_mostApart_11 : decode cX7_mostApart 11 = .ok (.invokevirtual 63, 3) := by decide +kernel
theorem dX7_mostApart_14 : decode cX7_mostApart 14 = .ok (.if_icmp .eq 75, 3) := by decide +kernel
theorem dX7_mostApart_17 : decode cX7_mostApart 17 = .ok (.aload_n 0, 1) := by decide +kernel
theorem dX7_mostApart_18 : decode cX7_mostApart 18 = .ok (.getfield 25, 3) := by decide +kernel
theorem dX7_mostApart_21 : decode cX7_mostApart 21 = .ok (.iload_n 1, 1) := by decide +kernel
theorem dX7_mostApart_22 : decode cX7_mostApart 22 = .ok (.invokevirtual 29, 3) := by decide +kernel
theorem dX7_mostApart_25 : decode cX7_mostApart 25 = .ok (.astore_n 2, 1) := by decide +kernel
theorem dX7_mostApart_26 : decode cX7_mostApart 26 = .ok (.aload_n 0, 1) := by decide +kernel
theorem dX7_mostApart_27 : decode cX7_mostApart 27 = .ok (.getfield 21, 3) := by decide +kernel
theorem dX7_mostApart_30 : decode cX7_mostApart 30 = .ok (.invokevirtual 39, 3) := by decide +kernel
theorem dX7_mostApart_33 : decode cX7_mostApart 33 = .ok (.istore_n 3, 1) := by decide +kernel
theorem dX7_mostApart_34 : decode cX7_mostApart 34 = .ok (.iconst 0, 1) := by decide +kernel
theorem dX7_mostApart_35 : decode cX7_mostApart 35 = .ok (.istore 4, 2) := by decide +kernel
theorem dX7_mostApart_37 : decode cX7_mostApart 37 = .ok (.iload 4, 2) := by decide +kernel
theorem dX7_mostApart_39 : decode cX7_mostApart 39 = .ok (.iload_n 3, 1) := by decide +kernel
theorem dX7_mostApart_40 : decode cX7_mostApart 40 = .ok (.if_icmp .gt 23, 3) := by decide +kernel
theorem dX7_mostApart_43 : decode cX7_mostApart 43 = .ok (.aload_n 0, 1) := by decide +kernel
theorem dX7_mostApart_44 : decode cX7_mostApart 44 = .ok (.getfield 9, 3) := by decide +kernel
theorem dX7_mostApart_47 : decode cX7_mostApart 47 = .ok (.iload 4, 2) := by decide +kernel
theorem dX7_mostApart_49 : decode cX7_mostApart 49 = .ok (.aload_n 0, 1) := by decide +kernel
theorem dX7_mostApart_50 : decode cX7_mostApart 50 = .ok (.aload_n 2, 1) := by decide +kernel
theorem dX7_mostApart_51 : decode cX7_mostApart 51 = .ok (.iload 4, 2) := by decide +kernel
theorem dX7_mostApart_53 : decode cX7_mostApart 53 = .ok (.invokevirtual 66, 3) := by decide +kernel
theorem dX7_mostApart_56 : decode cX7_mostApart 56 = .ok (.iastore, 1) := by decide +kernel
theorem dX7_mostApart_57 : decode cX7_mostApart 57 = .ok (.iinc 4 1, 3) := by decide +kernel
theorem dX7_mostApart_60 : decode cX7_mostApart 60 = .ok (.goto (-23), 3) := by decide +kernel
theorem dX7_mostApart_63 : decode cX7_mostApart 63 = .ok (.aload_n 0, 1) := by decide +kernel
theorem dX7_mostApart_64 : decode cX7_mostApart 64 = .ok (.getfield 15, 3) := by decide +kernel
theorem dX7_mostApart_67 : decode cX7_mostApart 67 = .ok (.iload_n 1, 1) := by decide +kernel
theorem dX7_mostApart_68 : decode cX7_mostApart 68 = .ok (.aload_n 0, 1) := by decide +kernel
theorem dX7_mostApart_69 : decode cX7_mostApart 69 = .ok (.getfield 9, 3) := by decide +kernel
theorem dX7_mostApart_72 : decode cX7_mostApart 72 = .ok (.iload_n 3, 1) := by decide +kernel
theorem dX7_mostApart_73 : decode cX7_mostApart 73 = .ok (.iaload, 1) := by decide +kernel
theorem dX7_mostApart_74 : decode cX7_mostApart 74 = .ok (.iastore, 1) := by decide +kernel
theorem dX7_mostApart_75 : decode cX7_mostApart 75 = .ok (.aload_n 0, 1) := by decide +kernel
theorem dX7_mostApart_76 : decode cX7_mostApart 76 = .ok (.getfield 18, 3) := by decide +kernel
theorem dX7_mostApart_79 : decode cX7_mostApart 79 = .ok (.iload_n 1, 1) := by decide +kernel
theorem dX7_mostApart_80 : decode cX7_mostApart 80 = .ok (.aload_n 0, 1) := by decide +kernel
theorem dX7_mostApart_81 : decode cX7_mostApart 81 = .ok (.getfield 21, 3) := by decide +kernel
theorem dX7_mostApart_84 : decode cX7_mostApart 84 = .ok (.iload_n 1, 1) := by decide +kernel
theorem dX7_mostApart_85 : decode cX7_mostApart 85 = .ok (.invokevirtual 63, 3) := by decide +kernel
theorem dX7_mostApart_88 : decode cX7_mostApart 88 = .ok (.iastore, 1) := by decide +kernel
theorem dX7_mostApart_89 : decode cX7_mostApart 89 = .ok (.aload_n 0, 1) := by decide +kernel
theorem dX7_mostApart_90 : decode cX7_mostApart 90 = .ok (.getfield 15, 3) := by decide +kernel
theorem dX7_mostApart_93 : decode cX7_mostApart 93 = .ok (.iload_n 1, 1) := by decide +kernel
theorem dX7_mostApart_94 : decode cX7_mostApart 94 = .ok (.iaload, 1) := by decide +kernel
theorem dX7_mostApart_95 : decode cX7_mostApart 95 = .ok (.ireturn, 1) := by decide +kernel
theorem dX7_mostWithin_0 : decode cX7_mostWithin 0 = .ok (.iload_n 2, 1) := by decide +kernel
theorem dX7_mostWithin_1 : decode cX7_mostWithin 1 = .ok (.ifCond .ne 5, 3) := by decide +kernel
theorem dX7_mostWithin_4 : decode cX7_mostWithin 4 = .ok (.iconst 0, 1) := by decide +kernel
theorem dX7_mostWithin_5 : decode cX7_mostWithin 5 = .ok (.ireturn, 1) := by decide +kernel
theorem dX7_mostWithin_6 : decode cX7_mostWithin 6 = .ok (.aload_n 0, 1) := by decide +kernel
theorem dX7_mostWithin_7 : decode cX7_mostWithin 7 = .ok (.aload_n 1, 1) := by decide +kernel
theorem dX7_mostWithin_8 : decode cX7_mostWithin 8 = .ok (.iload_n 2, 1) := by decide +kernel
theorem dX7_mostWithin_9 : decode cX7_mostWithin 9 = .ok (.invokevirtual 35, 3) := by decide +kernel
theorem dX7_mostWithin_12 : decode cX7_mostWithin 12 = .ok (.istore_n 3, 1) := by decide +kernel
theorem dX7_mostWithin_13 : decode cX7_mostWithin 13 = .ok (.iload_n 3, 1) := by decide +kernel
theorem dX7_mostWithin_14 : decode cX7_mostWithin 14 = .ok (.iload_n 2, 1) := by decide +kernel
theorem dX7_mostWithin_15 : decode cX7_mostWithin 15 = .ok (.if_icmp .ne 12, 3) := by decide +kernel
theorem dX7_mostWithin_18 : decode cX7_mostWithin 18 = .ok (.aload_n 0, 1) := by decide +kernel
theorem dX7_mostWithin_19 : decode cX7_mostWithin 19 = .ok (.aload_n 1, 1) := by decide +kernel
theorem dX7_mostWithin_20 : decode cX7_mostWithin 20 = .ok (.iload_n 2, 1) := by decide +kernel
theorem dX7_mostWithin_21 : decode cX7_mostWithin 21 = .ok (.invokevirtual 69, 3) := by decide +kernel
theorem dX7_mostWithin_24 : decode cX7_mostWithin 24 = .ok (.goto 9, 3) := by decide +kernel
theorem dX7_mostWithin_27 : decode cX7_mostWithin 27 = .ok (.aload_n 0, 1) := by decide +kernel
theorem dX7_mostWithin_28 : decode cX7_mostWithin 28 = .ok (.getfield 9, 3) := by decide +kernel
theorem dX7_mostWithin_31 : decode cX7_mostWithin 31 = .ok (.iload_n 3, 1) := by decide +kernel
theorem dX7_mostWithin_32 : decode cX7_mostWithin 32 = .ok (.iaload, 1) := by decide +kernel
theorem dX7_mostWithin_33 : decode cX7_mostWithin 33 = .ok (.ireturn, 1) := by decide +kernel
theorem dX7_mostByLowest_0 : decode cX7_mostByLowest 0 = .ok (.iload_n 2, 1) := by decide +kernel
theorem dX7_mostByLowest_1 : decode cX7_mostByLowest 1 = .ok (.iload_n 2, 1) := by decide +kernel
theorem dX7_mostByLowest_2 : decode cX7_mostByLowest 2 = .ok (.ineg, 1) := by decide +kernel
theorem dX7_mostByLowest_3 : decode cX7_mostByLowest 3 = .ok (.iand, 1) := by decide +kernel
theorem dX7_mostByLowest_4 : decode cX7_mostByLowest 4 = .ok (.istore_n 3, 1) := by decide +kernel
theorem dX7_mostByLowest_5 : decode cX7_mostByLowest 5 = .ok (.iload_n 2, 1) := by decide +kernel
theorem dX7_mostByLowest_6 : decode cX7_mostByLowest 6 = .ok (.iload_n 3, 1) := by decide +kernel
theorem dX7_mostByLowest_7 : decode cX7_mostByLowest 7 = .ok (.iconst (-1), 1) := by decide +kernel
theorem dX7_mostByLowest_8 : decode cX7_mostByLowest 8 = .ok (.ixor, 1) := by decide +kernel
theorem dX7_mostByLowest_9 : decode cX7_mostByLowest 9 = .ok (.iand, 1) := by decide +kernel
theorem dX7_mostByLowest_10 : decode cX7_mostByLowest 10 = .ok (.istore 4, 2) := by decide +kernel
theorem dX7_mostByLowest_12 : decode cX7_mostByLowest 12 = .ok (.aload_n 0, 1) := by decide +kernel
theorem dX7_mostByLowest_13 : decode cX7_mostByLowest 13 = .ok (.getfield 9, 3) := by decide +kernel
theorem dX7_mostByLowest_16 : decode cX7_mostByLowest 16 = .ok (.iload 4, 2) := by decide +kernel
theorem dX7_mostByLowest_18 : decode cX7_mostByLowest 18 = .ok (.iaload, 1) := by decide +kernel
theorem dX7_mostByLowest_19 : decode cX7_mostByLowest 19 = .ok (.istore 5, 2) := by decide +kernel
theorem dX7_mostByLowest_21 : decode cX7_mostByLowest 21 = .ok (.iload 4, 2) := by decide +kernel
theorem dX7_mostByLowest_23 : decode cX7_mostByLowest 23 = .ok (.istore 6, 2) := by decide +kernel
theorem dX7_mostByLowest_25 : decode cX7_mostByLowest 25 = .ok (.iload 6, 2) := by decide +kernel
theorem dX7_mostByLowest_27 : decode cX7_mostByLowest 27 = .ok (.ifCond .le 58, 3) := by decide +kernel
theorem dX7_mostByLowest_30 : decode cX7_mostByLowest 30 = .ok (.iload_n 2, 1) := by decide +kernel
theorem dX7_mostByLowest_31 : decode cX7_mostByLowest 31 = .ok (.iload 6, 2) := by decide +kernel
theorem dX7_mostByLowest_33 : decode cX7_mostByLowest 33 = .ok (.iconst (-1), 1) := by decide +kernel
theorem dX7_mostByLowest_34 : decode cX7_mostByLowest 34 = .ok (.ixor, 1) := by decide +kernel
theorem dX7_mostByLowest_35 : decode cX7_mostByLowest 35 = .ok (.iand, 1) := by decide +kernel
theorem dX7_mostByLowest_36 : decode cX7_mostByLowest 36 = .ok (.istore 7, 2) := by decide +kernel
theorem dX7_mostByLowest_38 : decode cX7_mostByLowest 38 = .ok (.aload_n 0, 1) := by decide +kernel
theorem dX7_mostByLowest_39 : decode cX7_mostByLowest 39 = .ok (.getfield 9, 3) := by decide +kernel
theorem dX7_mostByLowest_42 : decode cX7_mostByLowest 42 = .ok (.iload 6, 2) := by decide +kernel
theorem dX7_mostByLowest_44 : decode cX7_mostByLowest 44 = .ok (.iaload, 1) := by decide +kernel
theorem dX7_mostByLowest_45 : decode cX7_mostByLowest 45 = .ok (.iload 5, 2) := by decide +kernel
theorem dX7_mostByLowest_47 : decode cX7_mostByLowest 47 = .ok (.if_icmp .lt 26, 3) := by decide +kernel
theorem dX7_mostByLowest_50 : decode cX7_mostByLowest 50 = .ok (.aload_n 0, 1) := by decide +kernel
theorem dX7_mostByLowest_51 : decode cX7_mostByLowest 51 = .ok (.aload_n 1, 1) := by decide +kernel
theorem dX7_mostByLowest_52 : decode cX7_mostByLowest 52 = .ok (.iload 7, 2) := by decide +kernel
theorem dX7_mostByLowest_54 : decode cX7_mostByLowest 54 = .ok (.invokevirtual 35, 3) := by decide +kernel
theorem dX7_mostByLowest_57 : decode cX7_mostByLowest 57 = .ok (.iload 7, 2) := by decide +kernel
theorem dX7_mostByLowest_59 : decode cX7_mostByLowest 59 = .ok (.if_icmp .ne 14, 3) := by decide +kernel
theorem dX7_mostByLowest_62 : decode cX7_mostByLowest 62 = .ok (.aload_n 0, 1) := by decide +kernel
theorem dX7_mostByLowest_63 : decode cX7_mostByLowest 63 = .ok (.getfield 9, 3) := by decide +kernel
theorem dX7_mostByLowest_66 : decode cX7_mostByLowest 66 = .ok (.iload 6, 2) := by decide +kernel
theorem dX7_mostByLowest_68 : decode cX7_mostByLowest 68 = .ok (.iaload, 1) := by decide +kernel
theorem dX7_mostByLowest_69 : decode cX7_mostByLowest 69 = .ok (.iconst 1, 1) := by decide +kernel
theorem dX7_mostByLowest_70 : decode cX7_mostByLowest 70 = .ok (.iadd, 1) := by decide +kernel
theorem dX7_mostByLowest_71 : decode cX7_mostByLowest 71 = .ok (.istore 5, 2) := by decide +kernel
theorem dX7_mostByLowest_73 : decode cX7_mostByLowest 73 = .ok (.iload 6, 2) := by decide +kernel
theorem dX7_mostByLowest_75 : decode cX7_mostByLowest 75 = .ok (.iconst 1, 1) := by decide +kernel
theorem dX7_mostByLowest_76 : decode cX7_mostByLowest 76 = .ok (.isub, 1) := by decide +kernel
theorem dX7_mostByLowest_77 : decode cX7_mostByLowest 77 = .ok (.iload 4, 2) := by decide +kernel
theorem dX7_mostByLowest_79 : decode cX7_mostByLowest 79 = .ok (.iand, 1) := by decide +kernel
theorem dX7_mostByLowest_80 : decode cX7_mostByLowest 80 = .ok (.istore 6, 2) := by decide +kernel
theorem dX7_mostByLowest_82 : decode cX7_mostByLowest 82 = .ok (.goto (-57), 3) := by decide +kernel
theorem dX7_mostByLowest_85 : decode cX7_mostByLowest 85 = .ok (.iload 5, 2) := by decide +kernel
theorem dX7_mostByLowest_87 : decode cX7_mostByLowest 87 = .ok (.iconst 1, 1) := by decide +kernel
theorem dX7_mostByLowest_88 : decode cX7_mostByLowest 88 = .ok (.invokestatic 72, 3) := by decide +kernel
theorem dX7_mostByLowest_91 : decode cX7_mostByLowest 91 = .ok (.ireturn, 1) := by decide +kernel
