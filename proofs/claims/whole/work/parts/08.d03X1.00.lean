theorem dX1_init_0 : decode cX1_init 0 = .ok (.aload_n 0, 1) := by decide +kernel
theorem dX1_init_1 : decode cX1_init 1 = .ok (.invokespecial 3, 3) := by decide +kernel
theorem dX1_init_4 : decode cX1_init 4 = .ok (.aload_n 0, 1) := by decide +kernel
theorem dX1_init_5 : decode cX1_init 5 = .ok (.bipush 14, 2) := by decide +kernel
theorem dX1_init_7 : decode cX1_init 7 = .ok (.newarray .int, 2) := by decide +kernel
theorem dX1_init_9 : decode cX1_init 9 = .ok (.putfield 9, 3) := by decide +kernel
theorem dX1_init_12 : decode cX1_init 12 = .ok (.aload_n 0, 1) := by decide +kernel
theorem dX1_init_13 : decode cX1_init 13 = .ok (.aload_n 1, 1) := by decide +kernel
theorem dX1_init_14 : decode cX1_init 14 = .ok (.putfield 15, 3) := by decide +kernel
theorem dX1_init_17 : decode cX1_init 17 = .ok (.aload_n 0, 1) := by decide +kernel
theorem dX1_init_18 : decode cX1_init 18 = .ok (.aload_n 2, 1) := by decide +kernel
theorem dX1_init_19 : decode cX1_init 19 = .ok (.putfield 19, 3) := by decide +kernel
theorem dX1_init_22 : decode cX1_init 22 = .ok (.return_, 1) := by decide +kernel
theorem dX1_follow_0 : decode cX1_follow 0 = .ok (.aload_n 0, 1) := by decide +kernel
theorem dX1_follow_1 : decode cX1_follow 1 = .ok (.getfield 9, 3) := by decide +kernel
theorem dX1_follow_4 : decode cX1_follow 4 = .ok (.iconst 0, 1) := by decide +kernel
theorem dX1_follow_5 : decode cX1_follow 5 = .ok (.iload_n 2, 1) := by decide +kernel
theorem dX1_follow_6 : decode cX1_follow 6 = .ok (.iastore, 1) := by decide +kernel
theorem dX1_follow_7 : decode cX1_follow 7 = .ok (.aload_n 0, 1) := by decide +kernel
theorem dX1_follow_8 : decode cX1_follow 8 = .ok (.iconst 0, 1) := by decide +kernel
theorem dX1_follow_9 : decode cX1_follow 9 = .ok (.putfield 23, 3) := by decide +kernel
theorem dX1_follow_12 : decode cX1_follow 12 = .ok (.iconst 1, 1) := by decide +kernel
theorem dX1_follow_13 : decode cX1_follow 13 = .ok (.istore_n 3, 1) := by decide +kernel
theorem dX1_follow_14 : decode cX1_follow 14 = .ok (.iload_n 3, 1) := by decide +kernel
theorem dX1_follow_15 : decode cX1_follow 15 = .ok (.aload_n 0, 1) := by decide +kernel
theorem dX1_follow_16 : decode cX1_follow 16 = .ok (.getfield 9, 3) := by decide +kernel
theorem dX1_follow_19 : decode cX1_follow 19 = .ok (.arraylength, 1) := by decide +kernel
theorem dX1_follow_20 : decode cX1_follow 20 = .ok (.if_icmp .ge 94, 3) := by decide +kernel
theorem dX1_follow_23 : decode cX1_follow 23 = .ok (.aload_n 0, 1) := by decide +kernel
theorem dX1_follow_24 : decode cX1_follow 24 = .ok (.getfield 9, 3) := by decide +kernel
theorem dX1_follow_27 : decode cX1_follow 27 = .ok (.iload_n 3, 1) := by decide +kernel
theorem dX1_follow_28 : decode cX1_follow 28 = .ok (.iconst 1, 1) := by decide +kernel
theorem dX1_follow_29 : decode cX1_follow 29 = .ok (.isub, 1) := by decide +kernel
theorem dX1_follow_30 : decode cX1_follow 30 = .ok (.iaload, 1) := by decide +kernel
theorem dX1_follow_31 : decode cX1_follow 31 = .ok (.istore 4, 2) := by decide +kernel
theorem dX1_follow_33 : decode cX1_follow 33 = .ok (.iload_n 1, 1) := by decide +kernel
theorem dX1_follow_34 : decode cX1_follow 34 = .ok (.iconst 2, 1) := by decide +kernel
theorem dX1_follow_35 : decode cX1_follow 35 = .ok (.if_icmp .ne 12, 3) := by decide +kernel
theorem dX1_follow_38 : decode cX1_follow 38 = .ok (.iload_n 3, 1) := by decide +kernel
theorem dX1_follow_39 : decode cX1_follow 39 = .ok (.iconst 1, 1) := by decide +kernel
theorem dX1_follow_40 : decode cX1_follow 40 = .ok (.if_icmp .ne 7, 3) := by decide +kernel
theorem dX1_follow_43 : decode cX1_follow 43 = .ok (.iconst 1, 1) := by decide +kernel
theorem dX1_follow_44 : decode cX1_follow 44 = .ok (.goto 4, 3) := by decide +kernel
theorem dX1_follow_47 : decode cX1_follow 47 = .ok (.iconst 0, 1) := by decide +kernel
theorem dX1_follow_48 : decode cX1_follow 48 = .ok (.istore 5, 2) := by decide +kernel
theorem dX1_follow_50 : decode cX1_follow 50 = .ok (.aload_n 0, 1) := by decide +kernel
theorem dX1_follow_51 : decode cX1_follow 51 = .ok (.getfield 9, 3) := by decide +kernel
theorem dX1_follow_54 : decode cX1_follow 54 = .ok (.iload_n 3, 1) := by decide +kernel
theorem dX1_follow_55 : decode cX1_follow 55 = .ok (.iload 5, 2) := by decide +kernel
theorem dX1_follow_57 : decode cX1_follow 57 = .ok (.ifCond .eq 15, 3) := by decide +kernel
theorem dX1_follow_60 : decode cX1_follow 60 = .ok (.aload_n 0, 1) := by decide +kernel
theorem dX1_follow_61 : decode cX1_follow 61 = .ok (.getfield 15, 3) := by decide +kernel
theorem dX1_follow_64 : decode cX1_follow 64 = .ok (.iload 4, 2) := by decide +kernel
theorem dX1_follow_66 : decode cX1_follow 66 = .ok (.invokevirtual 27, 3) := by decide +kernel
theorem dX1_follow_69 : decode cX1_follow 69 = .ok (.goto 13, 3) := by decide +kernel
theorem dX1_follow_72 : decode cX1_follow 72 = .ok (.aload_n 0, 1) := by decide +kernel
theorem dX1_follow_73 : decode cX1_follow 73 = .ok (.getfield 19, 3) := by decide +kernel
theorem dX1_follow_76 : decode cX1_follow 76 = .ok (.iload_n 1, 1) := by decide +kernel
theorem dX1_follow_77 : decode cX1_follow 77 = .ok (.iload 4, 2) := by decide +kernel
theorem dX1_follow_79 : decode cX1_follow 79 = .ok (.invokevirtual 33, 3) := by decide +kernel
theorem dX1_follow_82 : decode cX1_follow 82 = .ok (.iastore, 1) := by decide +kernel
theorem dX1_follow_83 : decode cX1_follow 83 = .ok (.aload_n 0, 1) := by decide +kernel
theorem dX1_follow_84 : decode cX1_follow 84 = .ok (.getfield 9, 3) := by decide +kernel
theorem dX1_follow_87 : decode cX1_follow 87 = .ok (.iload_n 3, 1) := by decide +kernel
theorem dX1_follow_88 : decode cX1_follow 88 = .ok (.iaload, 1) := by decide +kernel
theorem dX1_follow_89 : decode cX1_follow 89 = .ok (.iload 4, 2) := by decide +kernel
theorem dX1_follow_91 : decode cX1_follow 91 = .ok (.if_icmp .eq 11, 3) := by decide +kernel
theorem dX1_follow_94 : decode cX1_follow 94 = .ok (.aload_n 0, 1) := by decide +kernel
theorem dX1_follow_95 : decode cX1_follow 95 = .ok (.iload_n 3, 1) := by decide +kernel
theorem dX1_follow_96 : decode cX1_follow 96 = .ok (.putfield 23, 3) := by decide +kernel
theorem dX1_follow_99 : decode cX1_follow 99 = .ok (.goto 9, 3) := by decide +kernel
theorem dX1_follow_102 : decode cX1_follow 102 = .ok (.iload 5, 2) := by decide +kernel
theorem dX1_follow_104 : decode cX1_follow 104 = .ok (.ifCond .ne 4, 3) := by decide +kernel
theorem dX1_follow_107 : decode cX1_follow 107 = .ok (.return_, 1) := by decide +kernel
theorem dX1_follow_108 : decode cX1_follow 108 = .ok (.iinc 3 1, 3) := by decide +kernel
theorem dX1_follow_111 : decode cX1_follow 111 = .ok (.goto (-97), 3) := by decide +kernel
theorem dX1_follow_114 : decode cX1_follow 114 = .ok (.return_, 1) := by decide +kernel
theorem dX1_onAtEnd_0 : decode cX1_onAtEnd 0 = .ok (.aload_n 0, 1) := by decide +kernel
theorem dX1_onAtEnd_1 : decode cX1_onAtEnd 1 = .ok (.getfield 9, 3) := by decide +kernel
theorem dX1_onAtEnd_4 : decode cX1_onAtEnd 4 = .ok (.aload_n 0, 1) := by decide +kernel
theorem dX1_onAtEnd_5 : decode cX1_onAtEnd 5 = .ok (.getfield 23, 3) := by decide +kernel
theorem dX1_onAtEnd_8 : decode cX1_onAtEnd 8 = .ok (.iaload, 1) := by decide +kernel
theorem dX1_onAtEnd_9 : decode cX1_onAtEnd 9 = .ok (.ireturn, 1) := by decide +kernel
theorem dX1_tickOf_0 : decode cX1_tickOf 0 = .ok (.iconst 0, 1) := by decide +kernel
theorem dX1_tickOf_1 : decode cX1_tickOf 1 = .ok (.istore_n 2, 1) := by decide +kernel
theorem dX1_tickOf_2 : decode cX1_tickOf 2 = .ok (.iload_n 2, 1) := by decide +kernel
theorem dX1_tickOf_3 : decode cX1_tickOf 3 = .ok (.aload_n 0, 1) := by decide +kernel
theorem dX1_tickOf_4 : decode cX1_tickOf 4 = .ok (.getfield 23, 3) := by decide +kernel
theorem dX1_tickOf_7 : decode cX1_tickOf 7 = .ok (.if_icmp .gt 24, 3) := by decide +kernel
theorem dX1_tickOf_10 : decode cX1_tickOf 10 = .ok (.aload_n 0, 1) := by decide +kernel
theorem dX1_tickOf_11 : decode cX1_tickOf 11 = .ok (.getfield 9, 3) := by decide +kernel
theorem dX1_tickOf_14 : decode cX1_tickOf 14 = .ok (.iload_n 2, 1) := by decide +kernel
theorem dX1_tickOf_15 : decode cX1_tickOf 15 = .ok (.iaload, 1) := by decide +kernel
theorem dX1_tickOf_16 : decode cX1_tickOf 16 = .ok (.iload_n 1, 1) := by decide +kernel
theorem dX1_tickOf_17 : decode cX1_tickOf 17 = .ok (.invokestatic 39, 3) := by decide +kernel
theorem dX1_tickOf_20 : decode cX1_tickOf 20 = .ok (.ifCond .eq 5, 3) := by decide +kernel
theorem dX1_tickOf_23 : decode cX1_tickOf 23 = .ok (.iload_n 2, 1) := by decide +kernel
theorem dX1_tickOf_24 : decode cX1_tickOf 24 = .ok (.ireturn, 1) := by decide +kernel
theorem dX1_tickOf_25 : decode cX1_tickOf 25 = .ok (.iinc 2 1, 3) := by decide +kernel
theorem dX1_tickOf_28 : decode cX1_tickOf 28 = .ok (.goto (-26), 3) := by decide +kernel
theorem dX1_tickOf_31 : decode cX1_tickOf 31 = .ok (.iconst (-1), 1) := by decide +kernel
theorem dX1_tickOf_32 : decode cX1_tickOf 32 = .ok (.ireturn, 1) := by decide +kernel
theorem dX1_bringersOf_0 : decode cX1_bringersOf 0 = .ok (.aload_n 0, 1) := by decide +kernel
theorem dX1_bringersOf_1 : decode cX1_bringersOf 1 = .ok (.iload_n 2, 1) := by decide +kernel
theorem dX1_bringersOf_2 : decode cX1_bringersOf 2 = .ok (.invokevirtual 43, 3) := by decide +kernel
theorem dX1_bringersOf_5 : decode cX1_bringersOf 5 = .ok (.istore_n 3, 1) := by decide +kernel
theorem dX1_bringersOf_6 : decode cX1_bringersOf 6 = .ok (.iload_n 3, 1) := by decide +kernel
theorem dX1_bringersOf_7 : decode cX1_bringersOf 7 = .ok (.ifCond .ge 5, 3) := by decide +kernel
theorem dX1_bringersOf_10 : decode cX1_bringersOf 10 = .ok (.iconst (-1), 1) := by decide +kernel
theorem dX1_bringersOf_11 : decode cX1_bringersOf 11 = .ok (.ireturn, 1) := by decide +kernel
theorem dX1_bringersOf_12 : decode cX1_bringersOf 12 = .ok (.iload_n 3, 1) := by decide +kernel
theorem dX1_bringersOf_13 : decode cX1_bringersOf 13 = .ok (.ifCond .ne 5, 3) := by decide +kernel
theorem dX1_bringersOf_16 : decode cX1_bringersOf 16 = .ok (.iconst 0, 1) := by decide +kernel
theorem dX1_bringersOf_17 : decode cX1_bringersOf 17 = .ok (.ireturn, 1) := by decide +kernel
theorem dX1_bringersOf_18 : decode cX1_bringersOf 18 = .ok (.aload_n 0, 1) := by decide +kernel
theorem dX1_bringersOf_19 : decode cX1_bringersOf 19 = .ok (.getfield 9, 3) := by decide +kernel
theorem dX1_bringersOf_22 : decode cX1_bringersOf 22 = .ok (.iload_n 3, 1) := by decide +kernel
theorem dX1_bringersOf_23 : decode cX1_bringersOf 23 = .ok (.iconst 1, 1) := by decide +kernel
theorem dX1_bringersOf_24 : decode cX1_bringersOf 24 = .ok (.isub, 1) := by decide +kernel
theorem dX1_bringersOf_25 : decode cX1_bringersOf 25 = .ok (.iaload, 1) := by decide +kernel
theorem dX1_bringersOf_26 : decode cX1_bringersOf 26 = .ok (.istore 4, 2) := by decide +kernel
theorem dX1_bringersOf_28 : decode cX1_bringersOf 28 = .ok (.iload 4, 2) := by decide +kernel
theorem dX1_bringersOf_30 : decode cX1_bringersOf 30 = .ok (.aload_n 0, 1) := by decide +kernel
theorem dX1_bringersOf_31 : decode cX1_bringersOf 31 = .ok (.getfield 15, 3) := by decide +kernel
theorem dX1_bringersOf_34 : decode cX1_bringersOf 34 = .ok (.getfield 46, 3) := by decide +kernel
theorem dX1_bringersOf_37 : decode cX1_bringersOf 37 = .ok (.iload_n 2, 1) := by decide +kernel
theorem dX1_bringersOf_38 : decode cX1_bringersOf 38 = .ok (.iaload, 1) := by decide +kernel
theorem dX1_bringersOf_39 : decode cX1_bringersOf 39 = .ok (.iand, 1) := by decide +kernel
theorem dX1_bringersOf_40 : decode cX1_bringersOf 40 = .ok (.istore 5, 2) := by decide +kernel
theorem dX1_bringersOf_42 : decode cX1_bringersOf 42 = .ok (.iload_n 1, 1) := by decide +kernel
theorem dX1_bringersOf_43 : decode cX1_bringersOf 43 = .ok (.ifCond .ne 6, 3) := by decide +kernel
theorem dX1_bringersOf_46 : decode cX1_bringersOf 46 = .ok (.iload 5, 2) := by decide +kernel
theorem dX1_bringersOf_48 : decode cX1_bringersOf 48 = .ok (.ireturn, 1) := by decide +kernel
theorem dX1_bringersOf_49 : decode cX1_bringersOf 49 = .ok (.iload_n 1, 1) := by decide +kernel
theorem dX1_bringersOf_50 : decode cX1_bringersOf 50 = .ok (.iconst 2, 1) := by decide +kernel
theorem dX1_bringersOf_51 : decode cX1_bringersOf 51 = .ok (.if_icmp .ne 17, 3) := by decide +kernel
theorem dX1_bringersOf_54 : decode cX1_bringersOf 54 = .ok (.iload_n 3, 1) := by decide +kernel
theorem dX1_bringersOf_55 : decode cX1_bringersOf 55 = .ok (.iconst 1, 1) := by decide +kernel
theorem dX1_bringersOf_56 : decode cX1_bringersOf 56 = .ok (.if_icmp .ne 12, 3) := by decide +kernel
theorem dX1_bringersOf_59 : decode cX1_bringersOf 59 = .ok (.iload 5, 2) := by decide +kernel
theorem dX1_bringersOf_61 : decode cX1_bringersOf 61 = .ok (.iload 5, 2) := by decide +kernel
theorem dX1_bringersOf_63 : decode cX1_bringersOf 63 = .ok (.ineg, 1) := by decide +kernel
theorem dX1_bringersOf_64 : decode cX1_bringersOf 64 = .ok (.iand, 1) := by decide +kernel
theorem dX1_bringersOf_65 : decode cX1_bringersOf 65 = .ok (.goto 10, 3) := by decide +kernel
theorem dX1_bringersOf_68 : decode cX1_bringersOf 68 = .ok (.aload_n 0, 1) := by decide +kernel
theorem dX1_bringersOf_69 : decode cX1_bringersOf 69 = .ok (.iload_n 2, 1) := by decide +kernel
theorem dX1_bringersOf_70 : decode cX1_bringersOf 70 = .ok (.iload 4, 2) := by decide +kernel
theorem dX1_bringersOf_72 : decode cX1_bringersOf 72 = .ok (.invokevirtual 49, 3) := by decide +kernel
theorem dX1_bringersOf_75 : decode cX1_bringersOf 75 = .ok (.ireturn, 1) := by decide +kernel
theorem dX1_leastForcing_0 : decode cX1_leastForcing 0 = .ok (.iconst 0, 1) := by decide +kernel
theorem dX1_leastForcing_1 : decode cX1_leastForcing 1 = .ok (.istore_n 3, 1) := by decide +kernel
theorem dX1_leastForcing_2 : decode cX1_leastForcing 2 = .ok (.iload_n 3, 1) := by decide +kernel
theorem dX1_leastForcing_3 : decode cX1_leastForcing 3 = .ok (.aload_n 0, 1) := by decide +kernel
theorem dX1_leastForcing_4 : decode cX1_leastForcing 4 = .ok (.getfield 15, 3) := by decide +kernel
theorem dX1_leastForcing_7 : decode cX1_leastForcing 7 = .ok (.getfield 52, 3) := by decide +kernel
theorem dX1_leastForcing_10 : decode cX1_leastForcing 10 = .ok (.if_icmp .ge 40, 3) := by decide +kernel
theorem dX1_leastForcing_13 : decode cX1_leastForcing 13 = .ok (.iload_n 2, 1) := by decide +kernel
theorem dX1_leastForcing_14 : decode cX1_leastForcing 14 = .ok (.iload_n 3, 1) := by decide +kernel
theorem dX1_leastForcing_15 : decode cX1_leastForcing 15 = .ok (.invokestatic 39, 3) := by decide +kernel
theorem dX1_leastForcing_18 : decode cX1_leastForcing 18 = .ok (.ifCond .eq 26, 3) := by decide +kernel
theorem dX1_leastForcing_21 : decode cX1_leastForcing 21 = .ok (.aload_n 0, 1) := by decide +kernel
theorem dX1_leastForcing_22 : decode cX1_leastForcing 22 = .ok (.getfield 15, 3) := by decide +kernel
theorem dX1_leastForcing_25 : decode cX1_leastForcing 25 = .ok (.getfield 55, 3) := by decide +kernel
theorem dX1_leastForcing_28 : decode cX1_leastForcing 28 = .ok (.iload_n 3, 1) := by decide +kernel
theorem dX1_leastForcing_29 : decode cX1_leastForcing 29 = .ok (.iaload, 1) := by decide +kernel
theorem dX1_leastForcing_30 : decode cX1_leastForcing 30 = .ok (.iload_n 2, 1) := by decide +kernel
theorem dX1_leastForcing_31 : decode cX1_leastForcing 31 = .ok (.iconst (-1), 1) := by decide +kernel
theorem dX1_leastForcing_32 : decode cX1_leastForcing 32 = .ok (.ixor, 1) := by decide +kernel
theorem dX1_leastForcing_33 : decode cX1_leastForcing 33 = .ok (.iand, 1) := by decide +kernel
theorem dX1_leastForcing_34 : decode cX1_leastForcing 34 = .ok (.iconst 1, 1) := by decide +kernel
theorem dX1_leastForcing_35 : decode cX1_leastForcing 35 = .ok (.iload_n 1, 1) := by decide +kernel
theorem dX1_leastForcing_36 : decode cX1_leastForcing 36 = .ok (.ishl, 1) := by decide +kernel
theorem dX1_leastForcing_37 : decode cX1_leastForcing 37 = .ok (.if_icmp .ne 7, 3) := by decide +kernel
theorem dX1_leastForcing_40 : decode cX1_leastForcing 40 = .ok (.iconst 1, 1) := by decide +kernel
theorem dX1_leastForcing_41 : decode cX1_leastForcing 41 = .ok (.iload_n 3, 1) := by decide +kernel
theorem dX1_leastForcing_42 : decode cX1_leastForcing 42 = .ok (.ishl, 1) := by decide +kernel
theorem dX1_leastForcing_43 : decode cX1_leastForcing 43 = .ok (.ireturn, 1) := by decide +kernel
theorem dX1_leastForcing_44 : decode cX1_leastForcing 44 = .ok (.iinc 3 1, 3) := by decide +kernel
theorem dX1_leastForcing_47 : decode cX1_leastForcing 47 = .ok (.goto (-45), 3) := by decide +kernel
theorem dX1_leastForcing_50 : decode cX1_leastForcing 50 = .ok (.iconst 0, 1) := by decide +kernel
theorem dX1_leastForcing_51 : decode cX1_leastForcing 51 = .ok (.ireturn, 1) := by decide +kernel
