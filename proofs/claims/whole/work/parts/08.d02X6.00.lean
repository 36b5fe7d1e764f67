theorem dX6_init_0 : decode cX6_init 0 = .ok (.aload_n 0, 1) := by decide +kernel
theorem dX6_init_1 : decode cX6_init 1 = .ok (.invokespecial 3, 3) := by decide +kernel
theorem dX6_init_4 : decode cX6_init 4 = .ok (.aload_n 0, 1) := by decide +kernel
theorem dX6_init_5 : decode cX6_init 5 = .ok (.iconst 3, 1) := by decide +kernel
theorem dX6_init_6 : decode cX6_init 6 = .ok (.sipush 4096, 3) := by decide +kernel
theorem dX6_init_9 : decode cX6_init 9 = .ok (.multianewarray 9 2, 4) := by decide +kernel
theorem dX6_init_13 : decode cX6_init 13 = .ok (.putfield 11, 3) := by decide +kernel
theorem dX6_init_16 : decode cX6_init 16 = .ok (.aload_n 0, 1) := by decide +kernel
theorem dX6_init_17 : decode cX6_init 17 = .ok (.iconst 3, 1) := by decide +kernel
theorem dX6_init_18 : decode cX6_init 18 = .ok (.newarray .int, 2) := by decide +kernel
theorem dX6_init_20 : decode cX6_init 20 = .ok (.putfield 16, 3) := by decide +kernel
theorem dX6_init_23 : decode cX6_init 23 = .ok (.aload_n 0, 1) := by decide +kernel
theorem dX6_init_24 : decode cX6_init 24 = .ok (.aload_n 1, 1) := by decide +kernel
theorem dX6_init_25 : decode cX6_init 25 = .ok (.putfield 20, 3) := by decide +kernel
theorem dX6_init_28 : decode cX6_init 28 = .ok (.return_, 1) := by decide +kernel
theorem dX6_afterTick_0 : decode cX6_afterTick 0 = .ok (.iload_n 1, 1) := by decide +kernel
theorem dX6_afterTick_1 : decode cX6_afterTick 1 = .ok (.ifCond .ne 11, 3) := by decide +kernel
theorem dX6_afterTick_4 : decode cX6_afterTick 4 = .ok (.aload_n 0, 1) := by decide +kernel
theorem dX6_afterTick_5 : decode cX6_afterTick 5 = .ok (.iload_n 2, 1) := by decide +kernel
theorem dX6_afterTick_6 : decode cX6_afterTick 6 = .ok (.invokevirtual 24, 3) := by decide +kernel
theorem dX6_afterTick_9 : decode cX6_afterTick 9 = .ok (.goto 8, 3) := by decide +kernel
theorem dX6_afterTick_12 : decode cX6_afterTick 12 = .ok (.aload_n 0, 1) := by decide +kernel
theorem dX6_afterTick_13 : decode cX6_afterTick 13 = .ok (.iload_n 2, 1) := by decide +kernel
theorem dX6_afterTick_14 : decode cX6_afterTick 14 = .ok (.invokevirtual 28, 3) := by decide +kernel
theorem dX6_afterTick_17 : decode cX6_afterTick 17 = .ok (.ireturn, 1) := by decide +kernel
theorem dX6_afterTickOfBars_0 : decode cX6_afterTickOfBars 0 = .ok (.iload_n 1, 1) := by decide +kernel
theorem dX6_afterTickOfBars_1 : decode cX6_afterTickOfBars 1 = .ok (.istore_n 2, 1) := by decide +kernel
theorem dX6_afterTickOfBars_2 : decode cX6_afterTickOfBars 2 = .ok (.iconst 0, 1) := by decide +kernel
theorem dX6_afterTickOfBars_3 : decode cX6_afterTickOfBars 3 = .ok (.istore_n 3, 1) := by decide +kernel
theorem dX6_afterTickOfBars_4 : decode cX6_afterTickOfBars 4 = .ok (.iload_n 3, 1) := by decide +kernel
theorem dX6_afterTickOfBars_5 : decode cX6_afterTickOfBars 5 = .ok (.aload_n 0, 1) := by decide +kernel
theorem dX6_afterTickOfBars_6 : decode cX6_afterTickOfBars 6 = .ok (.getfield 20, 3) := by decide +kernel
theorem dX6_afterTickOfBars_9 : decode cX6_afterTickOfBars 9 = .ok (.getfield 31, 3) := by decide +kernel
theorem dX6_afterTickOfBars_12 : decode cX6_afterTickOfBars 12 = .ok (.if_icmp .ge 44, 3) := by decide +kernel
theorem dX6_afterTickOfBars_15 : decode cX6_afterTickOfBars 15 = .ok (.iload_n 1, 1) := by decide +kernel
theorem dX6_afterTickOfBars_16 : decode cX6_afterTickOfBars 16 = .ok (.iload_n 3, 1) := by decide +kernel
theorem dX6_afterTickOfBars_17 : decode cX6_afterTickOfBars 17 = .ok (.invokestatic 37, 3) := by decide +kernel
theorem dX6_afterTickOfBars_20 : decode cX6_afterTickOfBars 20 = .ok (.ifCond .ne 30, 3) := by decide +kernel
theorem dX6_afterTickOfBars_23 : decode cX6_afterTickOfBars 23 = .ok (.aload_n 0, 1) := by decide +kernel
theorem dX6_afterTickOfBars_24 : decode cX6_afterTickOfBars 24 = .ok (.getfield 20, 3) := by decide +kernel
theorem dX6_afterTickOfBars_27 : decode cX6_afterTickOfBars 27 = .ok (.iload_n 3, 1) := by decide +kernel
theorem dX6_afterTickOfBars_28 : decode cX6_afterTickOfBars 28 = .ok (.iload_n 1, 1) := by decide +kernel
theorem dX6_afterTickOfBars_29 : decode cX6_afterTickOfBars 29 = .ok (.invokevirtual 41, 3) := by decide +kernel
theorem dX6_afterTickOfBars_32 : decode cX6_afterTickOfBars 32 = .ok (.aload_n 0, 1) := by decide +kernel
theorem dX6_afterTickOfBars_33 : decode cX6_afterTickOfBars 33 = .ok (.getfield 20, 3) := by decide +kernel
theorem dX6_afterTickOfBars_36 : decode cX6_afterTickOfBars 36 = .ok (.getfield 45, 3) := by decide +kernel
theorem dX6_afterTickOfBars_39 : decode cX6_afterTickOfBars 39 = .ok (.iload_n 3, 1) := by decide +kernel
theorem dX6_afterTickOfBars_40 : decode cX6_afterTickOfBars 40 = .ok (.iaload, 1) := by decide +kernel
theorem dX6_afterTickOfBars_41 : decode cX6_afterTickOfBars 41 = .ok (.if_icmp .lt 9, 3) := by decide +kernel
theorem dX6_afterTickOfBars_44 : decode cX6_afterTickOfBars 44 = .ok (.iload_n 2, 1) := by decide +kernel
theorem dX6_afterTickOfBars_45 : decode cX6_afterTickOfBars 45 = .ok (.iconst 1, 1) := by decide +kernel
theorem dX6_afterTickOfBars_46 : decode cX6_afterTickOfBars 46 = .ok (.iload_n 3, 1) := by decide +kernel
theorem dX6_afterTickOfBars_47 : decode cX6_afterTickOfBars 47 = .ok (.ishl, 1) := by decide +kernel
theorem dX6_afterTickOfBars_48 : decode cX6_afterTickOfBars 48 = .ok (.ior, 1) := by decide +kernel
theorem dX6_afterTickOfBars_49 : decode cX6_afterTickOfBars 49 = .ok (.istore_n 2, 1) := by decide +kernel
theorem dX6_afterTickOfBars_50 : decode cX6_afterTickOfBars 50 = .ok (.iinc 3 1, 3) := by decide +kernel
theorem dX6_afterTickOfBars_53 : decode cX6_afterTickOfBars 53 = .ok (.goto (-49), 3) := by decide +kernel
theorem dX6_afterTickOfBars_56 : decode cX6_afterTickOfBars 56 = .ok (.iload_n 2, 1) := by decide +kernel
theorem dX6_afterTickOfBars_57 : decode cX6_afterTickOfBars 57 = .ok (.ireturn, 1) := by decide +kernel
theorem dX6_afterTickOfForced_0 : decode cX6_afterTickOfForced 0 = .ok (.iload_n 1, 1) := by decide +kernel
theorem dX6_afterTickOfForced_1 : decode cX6_afterTickOfForced 1 = .ok (.istore_n 2, 1) := by decide +kernel
theorem dX6_afterTickOfForced_2 : decode cX6_afterTickOfForced 2 = .ok (.iconst 0, 1) := by decide +kernel
theorem dX6_afterTickOfForced_3 : decode cX6_afterTickOfForced 3 = .ok (.istore_n 3, 1) := by decide +kernel
theorem dX6_afterTickOfForced_4 : decode cX6_afterTickOfForced 4 = .ok (.iload_n 3, 1) := by decide +kernel
theorem dX6_afterTickOfForced_5 : decode cX6_afterTickOfForced 5 = .ok (.aload_n 0, 1) := by decide +kernel
theorem dX6_afterTickOfForced_6 : decode cX6_afterTickOfForced 6 = .ok (.getfield 20, 3) := by decide +kernel
theorem dX6_afterTickOfForced_9 : decode cX6_afterTickOfForced 9 = .ok (.getfield 31, 3) := by decide +kernel
theorem dX6_afterTickOfForced_12 : decode cX6_afterTickOfForced 12 = .ok (.if_icmp .ge 59, 3) := by decide +kernel
theorem dX6_afterTickOfForced_15 : decode cX6_afterTickOfForced 15 = .ok (.aload_n 0, 1) := by decide +kernel
theorem dX6_afterTickOfForced_16 : decode cX6_afterTickOfForced 16 = .ok (.getfield 20, 3) := by decide +kernel
theorem dX6_afterTickOfForced_19 : decode cX6_afterTickOfForced 19 = .ok (.getfield 48, 3) := by decide +kernel
theorem dX6_afterTickOfForced_22 : decode cX6_afterTickOfForced 22 = .ok (.iload_n 3, 1) := by decide +kernel
theorem dX6_afterTickOfForced_23 : decode cX6_afterTickOfForced 23 = .ok (.iaload, 1) := by decide +kernel
theorem dX6_afterTickOfForced_24 : decode cX6_afterTickOfForced 24 = .ok (.iload_n 1, 1) := by decide +kernel
theorem dX6_afterTickOfForced_25 : decode cX6_afterTickOfForced 25 = .ok (.iconst (-1), 1) := by decide +kernel
theorem dX6_afterTickOfForced_26 : decode cX6_afterTickOfForced 26 = .ok (.ixor, 1) := by decide +kernel
theorem dX6_afterTickOfForced_27 : decode cX6_afterTickOfForced 27 = .ok (.iand, 1) := by decide +kernel
theorem dX6_afterTickOfForced_28 : decode cX6_afterTickOfForced 28 = .ok (.istore 4, 2) := by decide +kernel
theorem dX6_afterTickOfForced_30 : decode cX6_afterTickOfForced 30 = .ok (.iload 4, 2) := by decide +kernel
theorem dX6_afterTickOfForced_32 : decode cX6_afterTickOfForced 32 = .ok (.iload 4, 2) := by decide +kernel
theorem dX6_afterTickOfForced_34 : decode cX6_afterTickOfForced 34 = .ok (.iconst 1, 1) := by decide +kernel
theorem dX6_afterTickOfForced_35 : decode cX6_afterTickOfForced 35 = .ok (.isub, 1) := by decide +kernel
theorem dX6_afterTickOfForced_36 : decode cX6_afterTickOfForced 36 = .ok (.iand, 1) := by decide +kernel
theorem dX6_afterTickOfForced_37 : decode cX6_afterTickOfForced 37 = .ok (.ifCond .ne 7, 3) := by decide +kernel
theorem dX6_afterTickOfForced_40 : decode cX6_afterTickOfForced 40 = .ok (.iconst 1, 1) := by decide +kernel
theorem dX6_afterTickOfForced_41 : decode cX6_afterTickOfForced 41 = .ok (.goto 4, 3) := by decide +kernel
theorem dX6_afterTickOfForced_44 : decode cX6_afterTickOfForced 44 = .ok (.iconst 0, 1) := by decide +kernel
theorem dX6_afterTickOfForced_45 : decode cX6_afterTickOfForced 45 = .ok (.istore 5, 2) := by decide +kernel
theorem dX6_afterTickOfForced_47 : decode cX6_afterTickOfForced 47 = .ok (.iload 5, 2) := by decide +kernel
theorem dX6_afterTickOfForced_49 : decode cX6_afterTickOfForced 49 = .ok (.ifCond .eq 16, 3) := by decide +kernel
theorem dX6_afterTickOfForced_52 : decode cX6_afterTickOfForced 52 = .ok (.iload_n 1, 1) := by decide +kernel
theorem dX6_afterTickOfForced_53 : decode cX6_afterTickOfForced 53 = .ok (.iload_n 3, 1) := by decide +kernel
theorem dX6_afterTickOfForced_54 : decode cX6_afterTickOfForced 54 = .ok (.invokestatic 37, 3) := by decide +kernel
theorem dX6_afterTickOfForced_57 : decode cX6_afterTickOfForced 57 = .ok (.ifCond .eq 8, 3) := by decide +kernel
theorem dX6_afterTickOfForced_60 : decode cX6_afterTickOfForced 60 = .ok (.iload_n 2, 1) := by decide +kernel
theorem dX6_afterTickOfForced_61 : decode cX6_afterTickOfForced 61 = .ok (.iload 4, 2) := by decide +kernel
theorem dX6_afterTickOfForced_63 : decode cX6_afterTickOfForced 63 = .ok (.ior, 1) := by decide +kernel
theorem dX6_afterTickOfForced_64 : decode cX6_afterTickOfForced 64 = .ok (.istore_n 2, 1) := by decide +kernel
theorem dX6_afterTickOfForced_65 : decode cX6_afterTickOfForced 65 = .ok (.iinc 3 1, 3) := by decide +kernel
theorem dX6_afterTickOfForced_68 : decode cX6_afterTickOfForced 68 = .ok (.goto (-64), 3) := by decide +kernel
theorem dX6_afterTickOfForced_71 : decode cX6_afterTickOfForced 71 = .ok (.iload_n 2, 1) := by decide +kernel
theorem dX6_afterTickOfForced_72 : decode cX6_afterTickOfForced 72 = .ok (.ireturn, 1) := by decide +kernel
theorem dX6_endsOf_0 : decode cX6_endsOf 0 = .ok (.aload_n 0, 1) := by decide +kernel
theorem dX6_endsOf_1 : decode cX6_endsOf 1 = .ok (.getfield 16, 3) := by decide +kernel
theorem dX6_endsOf_4 : decode cX6_endsOf 4 = .ok (.iload_n 1, 1) := by decide +kernel
theorem dX6_endsOf_5 : decode cX6_endsOf 5 = .ok (.iaload, 1) := by decide +kernel
theorem dX6_endsOf_6 : decode cX6_endsOf 6 = .ok (.aload_n 0, 1) := by decide +kernel
theorem dX6_endsOf_7 : decode cX6_endsOf 7 = .ok (.getfield 20, 3) := by decide +kernel
theorem dX6_endsOf_10 : decode cX6_endsOf 10 = .ok (.iload_n 1, 1) := by decide +kernel
theorem dX6_endsOf_11 : decode cX6_endsOf 11 = .ok (.invokevirtual 51, 3) := by decide +kernel
theorem dX6_endsOf_14 : decode cX6_endsOf 14 = .ok (.if_icmp .eq 25, 3) := by decide +kernel
theorem dX6_endsOf_17 : decode cX6_endsOf 17 = .ok (.iload_n 1, 1) := by decide +kernel
theorem dX6_endsOf_18 : decode cX6_endsOf 18 = .ok (.iconst 2, 1) := by decide +kernel
theorem dX6_endsOf_19 : decode cX6_endsOf 19 = .ok (.if_icmp .ne 15, 3) := by decide +kernel
theorem dX6_endsOf_22 : decode cX6_endsOf 22 = .ok (.aload_n 0, 1) := by decide +kernel
theorem dX6_endsOf_23 : decode cX6_endsOf 23 = .ok (.iconst 1, 1) := by decide +kernel
theorem dX6_endsOf_24 : decode cX6_endsOf 24 = .ok (.invokevirtual 54, 3) := by decide +kernel
theorem dX6_endsOf_27 : decode cX6_endsOf 27 = .ok (.aload_n 0, 1) := by decide +kernel
theorem dX6_endsOf_28 : decode cX6_endsOf 28 = .ok (.invokevirtual 58, 3) := by decide +kernel
theorem dX6_endsOf_31 : decode cX6_endsOf 31 = .ok (.goto 8, 3) := by decide +kernel
theorem dX6_endsOf_34 : decode cX6_endsOf 34 = .ok (.aload_n 0, 1) := by decide +kernel
theorem dX6_endsOf_35 : decode cX6_endsOf 35 = .ok (.iload_n 1, 1) := by decide +kernel
theorem dX6_endsOf_36 : decode cX6_endsOf 36 = .ok (.invokevirtual 54, 3) := by decide +kernel
theorem dX6_endsOf_39 : decode cX6_endsOf 39 = .ok (.aload_n 0, 1) := by decide +kernel
theorem dX6_endsOf_40 : decode cX6_endsOf 40 = .ok (.getfield 11, 3) := by decide +kernel
theorem dX6_endsOf_43 : decode cX6_endsOf 43 = .ok (.iload_n 1, 1) := by decide +kernel
theorem dX6_endsOf_44 : decode cX6_endsOf 44 = .ok (.aaload, 1) := by decide +kernel
theorem dX6_endsOf_45 : decode cX6_endsOf 45 = .ok (.areturn, 1) := by decide +kernel
theorem dX6_fillPlain_0 : decode cX6_fillPlain 0 = .ok (.aload_n 0, 1) := by decide +kernel
theorem dX6_fillPlain_1 : decode cX6_fillPlain 1 = .ok (.getfield 11, 3) := by decide +kernel
theorem dX6_fillPlain_4 : decode cX6_fillPlain 4 = .ok (.iload_n 1, 1) := by decide +kernel
theorem dX6_fillPlain_5 : decode cX6_fillPlain 5 = .ok (.aaload, 1) := by decide +kernel
theorem dX6_fillPlain_6 : decode cX6_fillPlain 6 = .ok (.astore_n 2, 1) := by decide +kernel
theorem dX6_fillPlain_7 : decode cX6_fillPlain 7 = .ok (.aload_n 0, 1) := by decide +kernel
theorem dX6_fillPlain_8 : decode cX6_fillPlain 8 = .ok (.getfield 20, 3) := by decide +kernel
theorem dX6_fillPlain_11 : decode cX6_fillPlain 11 = .ok (.invokevirtual 61, 3) := by decide +kernel
theorem dX6_fillPlain_14 : decode cX6_fillPlain 14 = .ok (.istore_n 3, 1) := by decide +kernel
theorem dX6_fillPlain_15 : decode cX6_fillPlain 15 = .ok (.iload_n 3, 1) := by decide +kernel
theorem dX6_fillPlain_16 : decode cX6_fillPlain 16 = .ok (.ifCond .lt 34, 3) := by decide +kernel
theorem dX6_fillPlain_19 : decode cX6_fillPlain 19 = .ok (.aload_n 0, 1) := by decide +kernel
theorem dX6_fillPlain_20 : decode cX6_fillPlain 20 = .ok (.iload_n 1, 1) := by decide +kernel
theorem dX6_fillPlain_21 : decode cX6_fillPlain 21 = .ok (.iload_n 3, 1) := by decide +kernel
theorem dX6_fillPlain_22 : decode cX6_fillPlain 22 = .ok (.invokevirtual 65, 3) := by decide +kernel
theorem dX6_fillPlain_25 : decode cX6_fillPlain 25 = .ok (.istore 4, 2) := by decide +kernel
theorem dX6_fillPlain_27 : decode cX6_fillPlain 27 = .ok (.aload_n 2, 1) := by decide +kernel
theorem dX6_fillPlain_28 : decode cX6_fillPlain 28 = .ok (.iload_n 3, 1) := by decide +kernel
theorem dX6_fillPlain_29 : decode cX6_fillPlain 29 = .ok (.iload 4, 2) := by decide +kernel
theorem dX6_fillPlain_31 : decode cX6_fillPlain 31 = .ok (.iload_n 3, 1) := by decide +kernel
theorem dX6_fillPlain_32 : decode cX6_fillPlain 32 = .ok (.if_icmp .ne 7, 3) := by decide +kernel
theorem dX6_fillPlain_35 : decode cX6_fillPlain 35 = .ok (.iload_n 3, 1) := by decide +kernel
theorem dX6_fillPlain_36 : decode cX6_fillPlain 36 = .ok (.goto 7, 3) := by decide +kernel
theorem dX6_fillPlain_39 : decode cX6_fillPlain 39 = .ok (.aload_n 2, 1) := by decide +kernel
theorem dX6_fillPlain_40 : decode cX6_fillPlain 40 = .ok (.iload 4, 2) := by decide +kernel
theorem dX6_fillPlain_42 : decode cX6_fillPlain 42 = .ok (.iaload, 1) := by decide +kernel
theorem dX6_fillPlain_43 : decode cX6_fillPlain 43 = .ok (.iastore, 1) := by decide +kernel
theorem dX6_fillPlain_44 : decode cX6_fillPlain 44 = .ok (.iinc 3 (-1), 3) := by decide +kernel
theorem dX6_fillPlain_47 : decode cX6_fillPlain 47 = .ok (.goto (-32), 3) := by decide +kernel
theorem dX6_fillPlain_50 : decode cX6_fillPlain 50 = .ok (.aload_n 0, 1) := by decide +kernel
theorem dX6_fillPlain_51 : decode cX6_fillPlain 51 = .ok (.getfield 16, 3) := by decide +kernel
theorem dX6_fillPlain_54 : decode cX6_fillPlain 54 = .ok (.iload_n 1, 1) := by decide +kernel
theorem dX6_fillPlain_55 : decode cX6_fillPlain 55 = .ok (.aload_n 0, 1) := by decide +kernel
theorem dX6_fillPlain_56 : decode cX6_fillPlain 56 = .ok (.getfield 20, 3) := by decide +kernel
theorem dX6_fillPlain_59 : decode cX6_fillPlain 59 = .ok (.iload_n 1, 1) := by decide +kernel
theorem dX6_fillPlain_60 : decode cX6_fillPlain 60 = .ok (.invokevirtual 51, 3) := by decide +kernel
theorem dX6_fillPlain_63 : decode cX6_fillPlain 63 = .ok (.iastore, 1) := by decide +kernel
theorem dX6_fillPlain_64 : decode cX6_fillPlain 64 = .ok (.return_, 1) := by decide +kernel
theorem dX6_fillSeen_0 : decode cX6_fillSeen 0 = .ok (.aload_n 0, 1) := by decide +kernel
theorem dX6_fillSeen_1 : decode cX6_fillSeen 1 = .ok (.getfield 20, 3) := by decide +kernel
theorem dX6_fillSeen_4 : decode cX6_fillSeen 4 = .ok (.invokevirtual 61, 3) := by decide +kernel
theorem dX6_fillSeen_7 : decode cX6_fillSeen 7 = .ok (.istore_n 1, 1) := by decide +kernel
theorem dX6_fillSeen_8 : decode cX6_fillSeen 8 = .ok (.iconst 0, 1) := by decide +kernel
theorem dX6_fillSeen_9 : decode cX6_fillSeen 9 = .ok (.istore_n 2, 1) := by decide +kernel
theorem dX6_fillSeen_10 : decode cX6_fillSeen 10 = .ok (.iload_n 2, 1) := by decide +kernel
theorem dX6_fillSeen_11 : decode cX6_fillSeen 11 = .ok (.iload_n 1, 1) := by decide +kernel
theorem dX6_fillSeen_12 : decode cX6_fillSeen 12 = .ok (.if_icmp .gt 32, 3) := by decide +kernel
theorem dX6_fillSeen_15 : decode cX6_fillSeen 15 = .ok (.aload_n 0, 1) := by decide +kernel
theorem dX6_fillSeen_16 : decode cX6_fillSeen 16 = .ok (.getfield 11, 3) := by decide +kernel
theorem dX6_fillSeen_19 : decode cX6_fillSeen 19 = .ok (.iconst 2, 1) := by decide +kernel
theorem dX6_fillSeen_20 : decode cX6_fillSeen 20 = .ok (.aaload, 1) := by decide +kernel
theorem dX6_fillSeen_21 : decode cX6_fillSeen 21 = .ok (.iload_n 2, 1) := by decide +kernel
theorem dX6_fillSeen_22 : decode cX6_fillSeen 22 = .ok (.aload_n 0, 1) := by decide +kernel
theorem dX6_fillSeen_23 : decode cX6_fillSeen 23 = .ok (.getfield 11, 3) := by decide +kernel
theorem dX6_fillSeen_26 : decode cX6_fillSeen 26 = .ok (.iconst 1, 1) := by decide +kernel
theorem dX6_fillSeen_27 : decode cX6_fillSeen 27 = .ok (.aaload, 1) := by decide +kernel
theorem dX6_fillSeen_28 : decode cX6_fillSeen 28 = .ok (.aload_n 0, 1) := by decide +kernel
theorem dX6_fillSeen_29 : decode cX6_fillSeen 29 = .ok (.getfield 20, 3) := by decide +kernel
theorem dX6_fillSeen_32 : decode cX6_fillSeen 32 = .ok (.iload_n 2, 1) := by decide +kernel
theorem dX6_fillSeen_33 : decode cX6_fillSeen 33 = .ok (.invokevirtual 68, 3) := by decide +kernel
theorem dX6_fillSeen_36 : decode cX6_fillSeen 36 = .ok (.iaload, 1) := by decide +kernel
theorem dX6_fillSeen_37 : decode cX6_fillSeen 37 = .ok (.iastore, 1) := by decide +kernel
theorem dX6_fillSeen_38 : decode cX6_fillSeen 38 = .ok (.iinc 2 1, 3) := by decide +kernel
theorem dX6_fillSeen_41 : decode cX6_fillSeen 41 = .ok (.goto (-31), 3) := by decide +kernel
theorem dX6_fillSeen_44 : decode cX6_fillSeen 44 = .ok (.aload_n 0, 1) := by decide +kernel
theorem dX6_fillSeen_45 : decode cX6_fillSeen 45 = .ok (.getfield 16, 3) := by decide +kernel
theorem dX6_fillSeen_48 : decode cX6_fillSeen 48 = .ok (.iconst 2, 1) := by decide +kernel
theorem dX6_fillSeen_49 : decode cX6_fillSeen 49 = .ok (.aload_n 0, 1) := by decide +kernel
theorem dX6_fillSeen_50 : decode cX6_fillSeen 50 = .ok (.getfield 20, 3) := by decide +kernel
theorem dX6_fillSeen_53 : decode cX6_fillSeen 53 = .ok (.iconst 2, 1) := by decide +kernel
theorem dX6_fillSeen_54 : decode cX6_fillSeen 54 = .ok (.invokevirtual 51, 3) := by decide +kernel
theorem dX6_fillSeen_57 : decode cX6_fillSeen 57 = .ok (.iastore, 1) := by decide +kernel
theorem dX6_fillSeen_58 : decode cX6_fillSeen 58 = .ok (.return_, 1) := by decide +kernel
