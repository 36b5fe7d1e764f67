theorem dX5_init_0 : decode cX5_init 0 = .ok (.aload_n 0, 1) := by decide +kernel
theorem dX5_init_1 : decode cX5_init 1 = .ok (.invokespecial 1, 3) := by decide +kernel
theorem dX5_init_4 : decode cX5_init 4 = .ok (.aload_n 0, 1) := by decide +kernel
theorem dX5_init_5 : decode cX5_init 5 = .ok (.aload_n 1, 1) := by decide +kernel
theorem dX5_init_6 : decode cX5_init 6 = .ok (.putfield 7, 3) := by decide +kernel
theorem dX5_init_9 : decode cX5_init 9 = .ok (.return_, 1) := by decide +kernel
theorem dX5_smallest_0 : decode cX5_smallest 0 = .ok (.aload_n 0, 1) := by decide +kernel
theorem dX5_smallest_1 : decode cX5_smallest 1 = .ok (.getfield 7, 3) := by decide +kernel
theorem dX5_smallest_4 : decode cX5_smallest 4 = .ok (.invokevirtual 13, 3) := by decide +kernel
theorem dX5_smallest_7 : decode cX5_smallest 7 = .ok (.istore_n 2, 1) := by decide +kernel
theorem dX5_smallest_8 : decode cX5_smallest 8 = .ok (.iload_n 2, 1) := by decide +kernel
theorem dX5_smallest_9 : decode cX5_smallest 9 = .ok (.istore_n 3, 1) := by decide +kernel
theorem dX5_smallest_10 : decode cX5_smallest 10 = .ok (.iconst 0, 1) := by decide +kernel
theorem dX5_smallest_11 : decode cX5_smallest 11 = .ok (.istore 4, 2) := by decide +kernel
theorem dX5_smallest_13 : decode cX5_smallest 13 = .ok (.iload 4, 2) := by decide +kernel
theorem dX5_smallest_15 : decode cX5_smallest 15 = .ok (.iload_n 2, 1) := by decide +kernel
theorem dX5_smallest_16 : decode cX5_smallest 16 = .ok (.if_icmp .ge 32, 3) := by decide +kernel
theorem dX5_smallest_19 : decode cX5_smallest 19 = .ok (.aload_n 1, 1) := by decide +kernel
theorem dX5_smallest_20 : decode cX5_smallest 20 = .ok (.iload 4, 2) := by decide +kernel
theorem dX5_smallest_22 : decode cX5_smallest 22 = .ok (.iaload, 1) := by decide +kernel
theorem dX5_smallest_23 : decode cX5_smallest 23 = .ok (.iload_n 2, 1) := by decide +kernel
theorem dX5_smallest_24 : decode cX5_smallest 24 = .ok (.if_icmp .ne 18, 3) := by decide +kernel
theorem dX5_smallest_27 : decode cX5_smallest 27 = .ok (.iload 4, 2) := by decide +kernel
theorem dX5_smallest_29 : decode cX5_smallest 29 = .ok (.invokestatic 19, 3) := by decide +kernel
theorem dX5_smallest_32 : decode cX5_smallest 32 = .ok (.iload_n 3, 1) := by decide +kernel
theorem dX5_smallest_33 : decode cX5_smallest 33 = .ok (.invokestatic 19, 3) := by decide +kernel
theorem dX5_smallest_36 : decode cX5_smallest 36 = .ok (.if_icmp .ge 6, 3) := by decide +kernel
theorem dX5_smallest_39 : decode cX5_smallest 39 = .ok (.iload 4, 2) := by decide +kernel
theorem dX5_smallest_41 : decode cX5_smallest 41 = .ok (.istore_n 3, 1) := by decide +kernel
theorem dX5_smallest_42 : decode cX5_smallest 42 = .ok (.iinc 4 1, 3) := by decide +kernel
theorem dX5_smallest_45 : decode cX5_smallest 45 = .ok (.goto (-32), 3) := by decide +kernel
theorem dX5_smallest_48 : decode cX5_smallest 48 = .ok (.iload_n 3, 1) := by decide +kernel
theorem dX5_smallest_49 : decode cX5_smallest 49 = .ok (.ireturn, 1) := by decide +kernel
theorem dX5_howManySmallest_0 : decode cX5_howManySmallest 0 = .ok (.aload_n 0, 1) := by decide +kernel
theorem dX5_howManySmallest_1 : decode cX5_howManySmallest 1 = .ok (.getfield 7, 3) := by decide +kernel
theorem dX5_howManySmallest_4 : decode cX5_howManySmallest 4 = .ok (.invokevirtual 13, 3) := by decide +kernel
theorem dX5_howManySmallest_7 : decode cX5_howManySmallest 7 = .ok (.istore_n 2, 1) := by decide +kernel
theorem dX5_howManySmallest_8 : decode cX5_howManySmallest 8 = .ok (.aload_n 0, 1) := by decide +kernel
theorem dX5_howManySmallest_9 : decode cX5_howManySmallest 9 = .ok (.aload_n 1, 1) := by decide +kernel
theorem dX5_howManySmallest_10 : decode cX5_howManySmallest 10 = .ok (.invokevirtual 25, 3) := by decide +kernel
theorem dX5_howManySmallest_13 : decode cX5_howManySmallest 13 = .ok (.invokestatic 19, 3) := by decide +kernel
theorem dX5_howManySmallest_16 : decode cX5_howManySmallest 16 = .ok (.istore_n 3, 1) := by decide +kernel
theorem dX5_howManySmallest_17 : decode cX5_howManySmallest 17 = .ok (.iconst 0, 1) := by decide +kernel
theorem dX5_howManySmallest_18 : decode cX5_howManySmallest 18 = .ok (.istore 4, 2) := by decide +kernel
theorem dX5_howManySmallest_20 : decode cX5_howManySmallest 20 = .ok (.iconst 0, 1) := by decide +kernel
theorem dX5_howManySmallest_21 : decode cX5_howManySmallest 21 = .ok (.istore 5, 2) := by decide +kernel
theorem dX5_howManySmallest_23 : decode cX5_howManySmallest 23 = .ok (.iload 5, 2) := by decide +kernel
theorem dX5_howManySmallest_25 : decode cX5_howManySmallest 25 = .ok (.iload_n 2, 1) := by decide +kernel
theorem dX5_howManySmallest_26 : decode cX5_howManySmallest 26 = .ok (.if_icmp .gt 29, 3) := by decide +kernel
theorem dX5_howManySmallest_29 : decode cX5_howManySmallest 29 = .ok (.aload_n 1, 1) := by decide +kernel
theorem dX5_howManySmallest_30 : decode cX5_howManySmallest 30 = .ok (.iload 5, 2) := by decide +kernel
theorem dX5_howManySmallest_32 : decode cX5_howManySmallest 32 = .ok (.iaload, 1) := by decide +kernel
theorem dX5_howManySmallest_33 : decode cX5_howManySmallest 33 = .ok (.iload_n 2, 1) := by decide +kernel
theorem dX5_howManySmallest_34 : decode cX5_howManySmallest 34 = .ok (.if_icmp .ne 15, 3) := by decide +kernel
theorem dX5_howManySmallest_37 : decode cX5_howManySmallest 37 = .ok (.iload 5, 2) := by decide +kernel
theorem dX5_howManySmallest_39 : decode cX5_howManySmallest 39 = .ok (.invokestatic 19, 3) := by decide +kernel
theorem dX5_howManySmallest_42 : decode cX5_howManySmallest 42 = .ok (.iload_n 3, 1) := by decide +kernel
theorem dX5_howManySmallest_43 : decode cX5_howManySmallest 43 = .ok (.if_icmp .ne 6, 3) := by decide +kernel
theorem dX5_howManySmallest_46 : decode cX5_howManySmallest 46 = .ok (.iinc 4 1, 3) := by decide +kernel
theorem dX5_howManySmallest_49 : decode cX5_howManySmallest 49 = .ok (.iinc 5 1, 3) := by decide +kernel
theorem dX5_howManySmallest_52 : decode cX5_howManySmallest 52 = .ok (.goto (-29), 3) := by decide +kernel
theorem dX5_howManySmallest_55 : decode cX5_howManySmallest 55 = .ok (.iload 4, 2) := by decide +kernel
theorem dX5_howManySmallest_57 : decode cX5_howManySmallest 57 = .ok (.ireturn, 1) := by decide +kernel
theorem dX5_leastPriced_0 : decode cX5_leastPriced 0 = .ok (.aload_n 0, 1) := by decide +kernel
theorem dX5_leastPriced_1 : decode cX5_leastPriced 1 = .ok (.getfield 7, 3) := by decide +kernel
theorem dX5_leastPriced_4 : decode cX5_leastPriced 4 = .ok (.invokevirtual 13, 3) := by decide +kernel
theorem dX5_leastPriced_7 : decode cX5_leastPriced 7 = .ok (.istore_n 2, 1) := by decide +kernel
theorem dX5_leastPriced_8 : decode cX5_leastPriced 8 = .ok (.iload_n 2, 1) := by decide +kernel
theorem dX5_leastPriced_9 : decode cX5_leastPriced 9 = .ok (.istore_n 3, 1) := by decide +kernel
theorem dX5_leastPriced_10 : decode cX5_leastPriced 10 = .ok (.aload_n 0, 1) := by decide +kernel
theorem dX5_leastPriced_11 : decode cX5_leastPriced 11 = .ok (.getfield 7, 3) := by decide +kernel
theorem dX5_leastPriced_14 : decode cX5_leastPriced 14 = .ok (.iload_n 2, 1) := by decide +kernel
theorem dX5_leastPriced_15 : decode cX5_leastPriced 15 = .ok (.invokevirtual 29, 3) := by decide +kernel
theorem dX5_leastPriced_18 : decode cX5_leastPriced 18 = .ok (.iconst 1, 1) := by decide +kernel
theorem dX5_leastPriced_19 : decode cX5_leastPriced 19 = .ok (.iadd, 1) := by decide +kernel
theorem dX5_leastPriced_20 : decode cX5_leastPriced 20 = .ok (.istore 4, 2) := by decide +kernel
theorem dX5_leastPriced_22 : decode cX5_leastPriced 22 = .ok (.iconst 0, 1) := by decide +kernel
theorem dX5_leastPriced_23 : decode cX5_leastPriced 23 = .ok (.istore 5, 2) := by decide +kernel
theorem dX5_leastPriced_25 : decode cX5_leastPriced 25 = .ok (.iload 5, 2) := by decide +kernel
theorem dX5_leastPriced_27 : decode cX5_leastPriced 27 = .ok (.iload_n 2, 1) := by decide +kernel
theorem dX5_leastPriced_28 : decode cX5_leastPriced 28 = .ok (.if_icmp .gt 45, 3) := by decide +kernel
theorem dX5_leastPriced_31 : decode cX5_leastPriced 31 = .ok (.aload_n 1, 1) := by decide +kernel
theorem dX5_leastPriced_32 : decode cX5_leastPriced 32 = .ok (.iload 5, 2) := by decide +kernel
theorem dX5_leastPriced_34 : decode cX5_leastPriced 34 = .ok (.iaload, 1) := by decide +kernel
theorem dX5_leastPriced_35 : decode cX5_leastPriced 35 = .ok (.iload_n 2, 1) := by decide +kernel
theorem dX5_leastPriced_36 : decode cX5_leastPriced 36 = .ok (.if_icmp .ne 31, 3) := by decide +kernel
theorem dX5_leastPriced_39 : decode cX5_leastPriced 39 = .ok (.aload_n 0, 1) := by decide +kernel
theorem dX5_leastPriced_40 : decode cX5_leastPriced 40 = .ok (.getfield 7, 3) := by decide +kernel
theorem dX5_leastPriced_43 : decode cX5_leastPriced 43 = .ok (.iload 5, 2) := by decide +kernel
theorem dX5_leastPriced_45 : decode cX5_leastPriced 45 = .ok (.invokevirtual 29, 3) := by decide +kernel
theorem dX5_leastPriced_48 : decode cX5_leastPriced 48 = .ok (.iload 4, 2) := by decide +kernel
theorem dX5_leastPriced_50 : decode cX5_leastPriced 50 = .ok (.if_icmp .ge 17, 3) := by decide +kernel
theorem dX5_leastPriced_53 : decode cX5_leastPriced 53 = .ok (.iload 5, 2) := by decide +kernel
theorem dX5_leastPriced_55 : decode cX5_leastPriced 55 = .ok (.istore_n 3, 1) := by decide +kernel
theorem dX5_leastPriced_56 : decode cX5_leastPriced 56 = .ok (.aload_n 0, 1) := by decide +kernel
theorem dX5_leastPriced_57 : decode cX5_leastPriced 57 = .ok (.getfield 7, 3) := by decide +kernel
theorem dX5_leastPriced_60 : decode cX5_leastPriced 60 = .ok (.iload 5, 2) := by decide +kernel
theorem dX5_leastPriced_62 : decode cX5_leastPriced 62 = .ok (.invokevirtual 29, 3) := by decide +kernel
theorem dX5_leastPriced_65 : decode cX5_leastPriced 65 = .ok (.istore 4, 2) := by decide +kernel
theorem dX5_leastPriced_67 : decode cX5_leastPriced 67 = .ok (.iinc 5 1, 3) := by decide +kernel
theorem dX5_leastPriced_70 : decode cX5_leastPriced 70 = .ok (.goto (-45), 3) := by decide +kernel
theorem dX5_leastPriced_73 : decode cX5_leastPriced 73 = .ok (.iload_n 3, 1) := by decide +kernel
theorem dX5_leastPriced_74 : decode cX5_leastPriced 74 = .ok (.ireturn, 1) := by decide +kernel
theorem dX5_paredDown_0 : decode cX5_paredDown 0 = .ok (.aload_n 0, 1) := by decide +kernel
theorem dX5_paredDown_1 : decode cX5_paredDown 1 = .ok (.getfield 7, 3) := by decide +kernel
theorem dX5_paredDown_4 : decode cX5_paredDown 4 = .ok (.invokevirtual 13, 3) := by decide +kernel
theorem dX5_paredDown_7 : decode cX5_paredDown 7 = .ok (.istore_n 2, 1) := by decide +kernel
theorem dX5_paredDown_8 : decode cX5_paredDown 8 = .ok (.iload_n 2, 1) := by decide +kernel
theorem dX5_paredDown_9 : decode cX5_paredDown 9 = .ok (.istore_n 3, 1) := by decide +kernel
theorem dX5_paredDown_10 : decode cX5_paredDown 10 = .ok (.aload_n 0, 1) := by decide +kernel
theorem dX5_paredDown_11 : decode cX5_paredDown 11 = .ok (.getfield 7, 3) := by decide +kernel
theorem dX5_paredDown_14 : decode cX5_paredDown 14 = .ok (.getfield 32, 3) := by decide +kernel
theorem dX5_paredDown_17 : decode cX5_paredDown 17 = .ok (.iconst 1, 1) := by decide +kernel
theorem dX5_paredDown_18 : decode cX5_paredDown 18 = .ok (.isub, 1) := by decide +kernel
theorem dX5_paredDown_19 : decode cX5_paredDown 19 = .ok (.istore 4, 2) := by decide +kernel
theorem dX5_paredDown_21 : decode cX5_paredDown 21 = .ok (.iload 4, 2) := by decide +kernel
theorem dX5_paredDown_23 : decode cX5_paredDown 23 = .ok (.ifCond .lt 30, 3) := by decide +kernel
theorem dX5_paredDown_26 : decode cX5_paredDown 26 = .ok (.iload_n 3, 1) := by decide +kernel
theorem dX5_paredDown_27 : decode cX5_paredDown 27 = .ok (.iconst 1, 1) := by decide +kernel
theorem dX5_paredDown_28 : decode cX5_paredDown 28 = .ok (.iload 4, 2) := by decide +kernel
theorem dX5_paredDown_30 : decode cX5_paredDown 30 = .ok (.ishl, 1) := by decide +kernel
theorem dX5_paredDown_31 : decode cX5_paredDown 31 = .ok (.iconst (-1), 1) := by decide +kernel
theorem dX5_paredDown_32 : decode cX5_paredDown 32 = .ok (.ixor, 1) := by decide +kernel
theorem dX5_paredDown_33 : decode cX5_paredDown 33 = .ok (.iand, 1) := by decide +kernel
theorem dX5_paredDown_34 : decode cX5_paredDown 34 = .ok (.istore 5, 2) := by decide +kernel
theorem dX5_paredDown_36 : decode cX5_paredDown 36 = .ok (.aload_n 1, 1) := by decide +kernel
theorem dX5_paredDown_37 : decode cX5_paredDown 37 = .ok (.iload 5, 2) := by decide +kernel
theorem dX5_paredDown_39 : decode cX5_paredDown 39 = .ok (.iaload, 1) := by decide +kernel
theorem dX5_paredDown_40 : decode cX5_paredDown 40 = .ok (.iload_n 2, 1) := by decide +kernel
theorem dX5_paredDown_41 : decode cX5_paredDown 41 = .ok (.if_icmp .ne 6, 3) := by decide +kernel
theorem dX5_paredDown_44 : decode cX5_paredDown 44 = .ok (.iload 5, 2) := by decide +kernel
theorem dX5_paredDown_46 : decode cX5_paredDown 46 = .ok (.istore_n 3, 1) := by decide +kernel
theorem dX5_paredDown_47 : decode cX5_paredDown 47 = .ok (.iinc 4 (-1), 3) := by decide +kernel
theorem dX5_paredDown_50 : decode cX5_paredDown 50 = .ok (.goto (-29), 3) := by decide +kernel
theorem dX5_paredDown_53 : decode cX5_paredDown 53 = .ok (.iload_n 3, 1) := by decide +kernel
theorem dX5_paredDown_54 : decode cX5_paredDown 54 = .ok (.ireturn, 1) := by decide +kernel
