theorem dX0_init_0 : decode cX0_init 0 = .ok (.aload_n 0, 1) := by decide +kernel
theorem dX0_init_1 : decode cX0_init 1 = .ok (.invokespecial 3, 3) := by decide +kernel
theorem dX0_init_4 : decode cX0_init 4 = .ok (.aload_n 0, 1) := by decide +kernel
theorem dX0_init_5 : decode cX0_init 5 = .ok (.sipush 4096, 3) := by decide +kernel
theorem dX0_init_8 : decode cX0_init 8 = .ok (.newarray .int, 2) := by decide +kernel
theorem dX0_init_10 : decode cX0_init 10 = .ok (.putfield 9, 3) := by decide +kernel
theorem dX0_init_13 : decode cX0_init 13 = .ok (.aload_n 0, 1) := by decide +kernel
theorem dX0_init_14 : decode cX0_init 14 = .ok (.aload_n 1, 1) := by decide +kernel
theorem dX0_init_15 : decode cX0_init 15 = .ok (.putfield 15, 3) := by decide +kernel
theorem dX0_init_18 : decode cX0_init 18 = .ok (.return_, 1) := by decide +kernel
theorem dX0_fewestTicks_0 : decode cX0_fewestTicks 0 = .ok (.aload_n 0, 1) := by decide +kernel
theorem dX0_fewestTicks_1 : decode cX0_fewestTicks 1 = .ok (.invokevirtual 19, 3) := by decide +kernel
theorem dX0_fewestTicks_4 : decode cX0_fewestTicks 4 = .ok (.aload_n 0, 1) := by decide +kernel
theorem dX0_fewestTicks_5 : decode cX0_fewestTicks 5 = .ok (.getfield 9, 3) := by decide +kernel
theorem dX0_fewestTicks_8 : decode cX0_fewestTicks 8 = .ok (.iconst 0, 1) := by decide +kernel
theorem dX0_fewestTicks_9 : decode cX0_fewestTicks 9 = .ok (.iaload, 1) := by decide +kernel
theorem dX0_fewestTicks_10 : decode cX0_fewestTicks 10 = .ok (.ireturn, 1) := by decide +kernel
theorem dX0_bestHand_0 : decode cX0_bestHand 0 = .ok (.aload_n 0, 1) := by decide +kernel
theorem dX0_bestHand_1 : decode cX0_bestHand 1 = .ok (.invokevirtual 19, 3) := by decide +kernel
theorem dX0_bestHand_4 : decode cX0_bestHand 4 = .ok (.aload_n 0, 1) := by decide +kernel
theorem dX0_bestHand_5 : decode cX0_bestHand 5 = .ok (.getfield 15, 3) := by decide +kernel
theorem dX0_bestHand_8 : decode cX0_bestHand 8 = .ok (.invokevirtual 22, 3) := by decide +kernel
theorem dX0_bestHand_11 : decode cX0_bestHand 11 = .ok (.istore_n 2, 1) := by decide +kernel
theorem dX0_bestHand_12 : decode cX0_bestHand 12 = .ok (.iconst 0, 1) := by decide +kernel
theorem dX0_bestHand_13 : decode cX0_bestHand 13 = .ok (.istore_n 3, 1) := by decide +kernel
theorem dX0_bestHand_14 : decode cX0_bestHand 14 = .ok (.iconst 0, 1) := by decide +kernel
theorem dX0_bestHand_15 : decode cX0_bestHand 15 = .ok (.istore 4, 2) := by decide +kernel
theorem dX0_bestHand_17 : decode cX0_bestHand 17 = .ok (.iload 4, 2) := by decide +kernel
theorem dX0_bestHand_19 : decode cX0_bestHand 19 = .ok (.bipush 12, 2) := by decide +kernel
theorem dX0_bestHand_21 : decode cX0_bestHand 21 = .ok (.if_icmp .ge 52, 3) := by decide +kernel
theorem dX0_bestHand_24 : decode cX0_bestHand 24 = .ok (.aload_n 0, 1) := by decide +kernel
theorem dX0_bestHand_25 : decode cX0_bestHand 25 = .ok (.getfield 15, 3) := by decide +kernel
theorem dX0_bestHand_28 : decode cX0_bestHand 28 = .ok (.iload_n 3, 1) := by decide +kernel
theorem dX0_bestHand_29 : decode cX0_bestHand 29 = .ok (.invokevirtual 28, 3) := by decide +kernel
theorem dX0_bestHand_32 : decode cX0_bestHand 32 = .ok (.istore 5, 2) := by decide +kernel
theorem dX0_bestHand_34 : decode cX0_bestHand 34 = .ok (.iload 5, 2) := by decide +kernel
theorem dX0_bestHand_36 : decode cX0_bestHand 36 = .ok (.iload_n 2, 1) := by decide +kernel
theorem dX0_bestHand_37 : decode cX0_bestHand 37 = .ok (.if_icmp .ne 5, 3) := by decide +kernel
theorem dX0_bestHand_40 : decode cX0_bestHand 40 = .ok (.iconst (-1), 1) := by decide +kernel
theorem dX0_bestHand_41 : decode cX0_bestHand 41 = .ok (.ireturn, 1) := by decide +kernel
theorem dX0_bestHand_42 : decode cX0_bestHand 42 = .ok (.aload_n 0, 1) := by decide +kernel
theorem dX0_bestHand_43 : decode cX0_bestHand 43 = .ok (.iload 5, 2) := by decide +kernel
theorem dX0_bestHand_45 : decode cX0_bestHand 45 = .ok (.invokevirtual 32, 3) := by decide +kernel
theorem dX0_bestHand_48 : decode cX0_bestHand 48 = .ok (.istore 6, 2) := by decide +kernel
theorem dX0_bestHand_50 : decode cX0_bestHand 50 = .ok (.iload 4, 2) := by decide +kernel
theorem dX0_bestHand_52 : decode cX0_bestHand 52 = .ok (.iload_n 1, 1) := by decide +kernel
theorem dX0_bestHand_53 : decode cX0_bestHand 53 = .ok (.if_icmp .ne 6, 3) := by decide +kernel
theorem dX0_bestHand_56 : decode cX0_bestHand 56 = .ok (.iload 6, 2) := by decide +kernel
theorem dX0_bestHand_58 : decode cX0_bestHand 58 = .ok (.ireturn, 1) := by decide +kernel
theorem dX0_bestHand_59 : decode cX0_bestHand 59 = .ok (.iload 5, 2) := by decide +kernel
theorem dX0_bestHand_61 : decode cX0_bestHand 61 = .ok (.iconst 1, 1) := by decide +kernel
theorem dX0_bestHand_62 : decode cX0_bestHand 62 = .ok (.iload 6, 2) := by decide +kernel
theorem dX0_bestHand_64 : decode cX0_bestHand 64 = .ok (.ishl, 1) := by decide +kernel
theorem dX0_bestHand_65 : decode cX0_bestHand 65 = .ok (.ior, 1) := by decide +kernel
theorem dX0_bestHand_66 : decode cX0_bestHand 66 = .ok (.istore_n 3, 1) := by decide +kernel
theorem dX0_bestHand_67 : decode cX0_bestHand 67 = .ok (.iinc 4 1, 3) := by decide +kernel
theorem dX0_bestHand_70 : decode cX0_bestHand 70 = .ok (.goto (-53), 3) := by decide +kernel
theorem dX0_bestHand_73 : decode cX0_bestHand 73 = .ok (.iconst (-1), 1) := by decide +kernel
theorem dX0_bestHand_74 : decode cX0_bestHand 74 = .ok (.ireturn, 1) := by decide +kernel
theorem dX0_bestPost_0 : decode cX0_bestPost 0 = .ok (.iconst 0, 1) := by decide +kernel
theorem dX0_bestPost_1 : decode cX0_bestPost 1 = .ok (.istore_n 2, 1) := by decide +kernel
theorem dX0_bestPost_2 : decode cX0_bestPost 2 = .ok (.bipush 13, 2) := by decide +kernel
theorem dX0_bestPost_4 : decode cX0_bestPost 4 = .ok (.istore_n 3, 1) := by decide +kernel
theorem dX0_bestPost_5 : decode cX0_bestPost 5 = .ok (.iconst 0, 1) := by decide +kernel
theorem dX0_bestPost_6 : decode cX0_bestPost 6 = .ok (.istore 4, 2) := by decide +kernel
theorem dX0_bestPost_8 : decode cX0_bestPost 8 = .ok (.iload 4, 2) := by decide +kernel
theorem dX0_bestPost_10 : decode cX0_bestPost 10 = .ok (.aload_n 0, 1) := by decide +kernel
theorem dX0_bestPost_11 : decode cX0_bestPost 11 = .ok (.getfield 15, 3) := by decide +kernel
theorem dX0_bestPost_14 : decode cX0_bestPost 14 = .ok (.getfield 35, 3) := by decide +kernel
theorem dX0_bestPost_17 : decode cX0_bestPost 17 = .ok (.if_icmp .ge 48, 3) := by decide +kernel
theorem dX0_bestPost_20 : decode cX0_bestPost 20 = .ok (.iload_n 1, 1) := by decide +kernel
theorem dX0_bestPost_21 : decode cX0_bestPost 21 = .ok (.iload 4, 2) := by decide +kernel
theorem dX0_bestPost_23 : decode cX0_bestPost 23 = .ok (.invokestatic 39, 3) := by decide +kernel
theorem dX0_bestPost_26 : decode cX0_bestPost 26 = .ok (.ifCond .ne 33, 3) := by decide +kernel
theorem dX0_bestPost_29 : decode cX0_bestPost 29 = .ok (.aload_n 0, 1) := by decide +kernel
theorem dX0_bestPost_30 : decode cX0_bestPost 30 = .ok (.getfield 9, 3) := by decide +kernel
theorem dX0_bestPost_33 : decode cX0_bestPost 33 = .ok (.iload_n 1, 1) := by decide +kernel
theorem dX0_bestPost_34 : decode cX0_bestPost 34 = .ok (.iconst 1, 1) := by decide +kernel
theorem dX0_bestPost_35 : decode cX0_bestPost 35 = .ok (.iload 4, 2) := by decide +kernel
theorem dX0_bestPost_37 : decode cX0_bestPost 37 = .ok (.ishl, 1) := by decide +kernel
theorem dX0_bestPost_38 : decode cX0_bestPost 38 = .ok (.ior, 1) := by decide +kernel
theorem dX0_bestPost_39 : decode cX0_bestPost 39 = .ok (.iaload, 1) := by decide +kernel
theorem dX0_bestPost_40 : decode cX0_bestPost 40 = .ok (.iload_n 3, 1) := by decide +kernel
theorem dX0_bestPost_41 : decode cX0_bestPost 41 = .ok (.if_icmp .ge 18, 3) := by decide +kernel
theorem dX0_bestPost_44 : decode cX0_bestPost 44 = .ok (.iload 4, 2) := by decide +kernel
theorem dX0_bestPost_46 : decode cX0_bestPost 46 = .ok (.istore_n 2, 1) := by decide +kernel
theorem dX0_bestPost_47 : decode cX0_bestPost 47 = .ok (.aload_n 0, 1) := by decide +kernel
theorem dX0_bestPost_48 : decode cX0_bestPost 48 = .ok (.getfield 9, 3) := by decide +kernel
theorem dX0_bestPost_51 : decode cX0_bestPost 51 = .ok (.iload_n 1, 1) := by decide +kernel
theorem dX0_bestPost_52 : decode cX0_bestPost 52 = .ok (.iconst 1, 1) := by decide +kernel
theorem dX0_bestPost_53 : decode cX0_bestPost 53 = .ok (.iload 4, 2) := by decide +kernel
theorem dX0_bestPost_55 : decode cX0_bestPost 55 = .ok (.ishl, 1) := by decide +kernel
theorem dX0_bestPost_56 : decode cX0_bestPost 56 = .ok (.ior, 1) := by decide +kernel
theorem dX0_bestPost_57 : decode cX0_bestPost 57 = .ok (.iaload, 1) := by decide +kernel
theorem dX0_bestPost_58 : decode cX0_bestPost 58 = .ok (.istore_n 3, 1) := by decide +kernel
theorem dX0_bestPost_59 : decode cX0_bestPost 59 = .ok (.iinc 4 1, 3) := by decide +kernel
theorem dX0_bestPost_62 : decode cX0_bestPost 62 = .ok (.goto (-54), 3) := by decide +kernel
theorem dX0_bestPost_65 : decode cX0_bestPost 65 = .ok (.iload_n 2, 1) := by decide +kernel
theorem dX0_bestPost_66 : decode cX0_bestPost 66 = .ok (.ireturn, 1) := by decide +kernel
theorem dX0_renewTicks_0 : decode cX0_renewTicks 0 = .ok (.aload_n 0, 1) := by decide +kernel
theorem dX0_renewTicks_1 : decode cX0_renewTicks 1 = .ok (.getfield 43, 3) := by decide +kernel
theorem dX0_renewTicks_4 : decode cX0_renewTicks 4 = .ok (.aload_n 0, 1) := by decide +kernel
theorem dX0_renewTicks_5 : decode cX0_renewTicks 5 = .ok (.getfield 15, 3) := by decide +kernel
theorem dX0_renewTicks_8 : decode cX0_renewTicks 8 = .ok (.getfield 46, 3) := by decide +kernel
theorem dX0_renewTicks_11 : decode cX0_renewTicks 11 = .ok (.if_icmp .ne 4, 3) := by decide +kernel
theorem dX0_renewTicks_14 : decode cX0_renewTicks 14 = .ok (.return_, 1) := by decide +kernel
theorem dX0_renewTicks_15 : decode cX0_renewTicks 15 = .ok (.aload_n 0, 1) := by decide +kernel
theorem dX0_renewTicks_16 : decode cX0_renewTicks 16 = .ok (.getfield 15, 3) := by decide +kernel
theorem dX0_renewTicks_19 : decode cX0_renewTicks 19 = .ok (.invokevirtual 22, 3) := by decide +kernel
theorem dX0_renewTicks_22 : decode cX0_renewTicks 22 = .ok (.istore_n 1, 1) := by decide +kernel
theorem dX0_renewTicks_23 : decode cX0_renewTicks 23 = .ok (.aload_n 0, 1) := by decide +kernel
theorem dX0_renewTicks_24 : decode cX0_renewTicks 24 = .ok (.getfield 9, 3) := by decide +kernel
theorem dX0_renewTicks_27 : decode cX0_renewTicks 27 = .ok (.iload_n 1, 1) := by decide +kernel
theorem dX0_renewTicks_28 : decode cX0_renewTicks 28 = .ok (.iconst 0, 1) := by decide +kernel
theorem dX0_renewTicks_29 : decode cX0_renewTicks 29 = .ok (.iastore, 1) := by decide +kernel
theorem dX0_renewTicks_30 : decode cX0_renewTicks 30 = .ok (.iload_n 1, 1) := by decide +kernel
theorem dX0_renewTicks_31 : decode cX0_renewTicks 31 = .ok (.iconst 1, 1) := by decide +kernel
theorem dX0_renewTicks_32 : decode cX0_renewTicks 32 = .ok (.isub, 1) := by decide +kernel
theorem dX0_renewTicks_33 : decode cX0_renewTicks 33 = .ok (.istore_n 2, 1) := by decide +kernel
theorem dX0_renewTicks_34 : decode cX0_renewTicks 34 = .ok (.iload_n 2, 1) := by decide +kernel
theorem dX0_renewTicks_35 : decode cX0_renewTicks 35 = .ok (.ifCond .lt 49, 3) := by decide +kernel
theorem dX0_renewTicks_38 : decode cX0_renewTicks 38 = .ok (.aload_n 0, 1) := by decide +kernel
theorem dX0_renewTicks_39 : decode cX0_renewTicks 39 = .ok (.getfield 15, 3) := by decide +kernel
theorem dX0_renewTicks_42 : decode cX0_renewTicks 42 = .ok (.iload_n 2, 1) := by decide +kernel
theorem dX0_renewTicks_43 : decode cX0_renewTicks 43 = .ok (.invokevirtual 28, 3) := by decide +kernel
theorem dX0_renewTicks_46 : decode cX0_renewTicks 46 = .ok (.istore_n 3, 1) := by decide +kernel
theorem dX0_renewTicks_47 : decode cX0_renewTicks 47 = .ok (.aload_n 0, 1) := by decide +kernel
theorem dX0_renewTicks_48 : decode cX0_renewTicks 48 = .ok (.getfield 9, 3) := by decide +kernel
theorem dX0_renewTicks_51 : decode cX0_renewTicks 51 = .ok (.iload_n 2, 1) := by decide +kernel
theorem dX0_renewTicks_52 : decode cX0_renewTicks 52 = .ok (.iload_n 3, 1) := by decide +kernel
theorem dX0_renewTicks_53 : decode cX0_renewTicks 53 = .ok (.iload_n 1, 1) := by decide +kernel
theorem dX0_renewTicks_54 : decode cX0_renewTicks 54 = .ok (.if_icmp .ne 7, 3) := by decide +kernel
theorem dX0_renewTicks_57 : decode cX0_renewTicks 57 = .ok (.iconst 1, 1) := by decide +kernel
theorem dX0_renewTicks_58 : decode cX0_renewTicks 58 = .ok (.goto 19, 3) := by decide +kernel
theorem dX0_renewTicks_61 : decode cX0_renewTicks 61 = .ok (.iconst 1, 1) := by decide +kernel
theorem dX0_renewTicks_62 : decode cX0_renewTicks 62 = .ok (.aload_n 0, 1) := by decide +kernel
theorem dX0_renewTicks_63 : decode cX0_renewTicks 63 = .ok (.getfield 9, 3) := by decide +kernel
theorem dX0_renewTicks_66 : decode cX0_renewTicks 66 = .ok (.iload_n 3, 1) := by decide +kernel
theorem dX0_renewTicks_67 : decode cX0_renewTicks 67 = .ok (.iconst 1, 1) := by decide +kernel
theorem dX0_renewTicks_68 : decode cX0_renewTicks 68 = .ok (.aload_n 0, 1) := by decide +kernel
theorem dX0_renewTicks_69 : decode cX0_renewTicks 69 = .ok (.iload_n 3, 1) := by decide +kernel
theorem dX0_renewTicks_70 : decode cX0_renewTicks 70 = .ok (.invokevirtual 32, 3) := by decide +kernel
theorem dX0_renewTicks_73 : decode cX0_renewTicks 73 = .ok (.ishl, 1) := by decide +kernel
theorem dX0_renewTicks_74 : decode cX0_renewTicks 74 = .ok (.ior, 1) := by decide +kernel
theorem dX0_renewTicks_75 : decode cX0_renewTicks 75 = .ok (.iaload, 1) := by decide +kernel
theorem dX0_renewTicks_76 : decode cX0_renewTicks 76 = .ok (.iadd, 1) := by decide +kernel
theorem dX0_renewTicks_77 : decode cX0_renewTicks 77 = .ok (.iastore, 1) := by decide +kernel
theorem dX0_renewTicks_78 : decode cX0_renewTicks 78 = .ok (.iinc 2 (-1), 3) := by decide +kernel
theorem dX0_renewTicks_81 : decode cX0_renewTicks 81 = .ok (.goto (-47), 3) := by decide +kernel
theorem dX0_renewTicks_84 : decode cX0_renewTicks 84 = .ok (.aload_n 0, 1) := by decide +kernel
theorem dX0_renewTicks_85 : decode cX0_renewTicks 85 = .ok (.aload_n 0, 1) := by decide +kernel
theorem dX0_renewTicks_86 : decode cX0_renewTicks 86 = .ok (.getfield 15, 3) := by decide +kernel
theorem dX0_renewTicks_89 : decode cX0_renewTicks 89 = .ok (.getfield 46, 3) := by decide +kernel
theorem dX0_renewTicks_92 : decode cX0_renewTicks 92 = .ok (.putfield 43, 3) := by decide +kernel
theorem dX0_renewTicks_95 : decode cX0_renewTicks 95 = .ok (.return_, 1) := by decide +kernel
theorem dX0_ticksByHands_0 : decode cX0_ticksByHands 0 = .ok (.aload_n 0, 1) := by decide +kernel
theorem dX0_ticksByHands_1 : decode cX0_ticksByHands 1 = .ok (.getfield 15, 3) := by decide +kernel
theorem dX0_ticksByHands_4 : decode cX0_ticksByHands 4 = .ok (.invokevirtual 22, 3) := by decide +kernel
theorem dX0_ticksByHands_7 : decode cX0_ticksByHands 7 = .ok (.istore_n 3, 1) := by decide +kernel
theorem dX0_ticksByHands_8 : decode cX0_ticksByHands 8 = .ok (.iconst 0, 1) := by decide +kernel
theorem dX0_ticksByHands_9 : decode cX0_ticksByHands 9 = .ok (.istore 4, 2) := by decide +kernel
theorem dX0_ticksByHands_11 : decode cX0_ticksByHands 11 = .ok (.lload_n 1, 1) := by decide +kernel
theorem dX0_ticksByHands_12 : decode cX0_ticksByHands 12 = .ok (.lstore 5, 2) := by decide +kernel
theorem dX0_ticksByHands_14 : decode cX0_ticksByHands 14 = .ok (.iconst 0, 1) := by decide +kernel
theorem dX0_ticksByHands_15 : decode cX0_ticksByHands 15 = .ok (.istore 7, 2) := by decide +kernel
theorem dX0_ticksByHands_17 : decode cX0_ticksByHands 17 = .ok (.iload 7, 2) := by decide +kernel
theorem dX0_ticksByHands_19 : decode cX0_ticksByHands 19 = .ok (.bipush 12, 2) := by decide +kernel
theorem dX0_ticksByHands_21 : decode cX0_ticksByHands 21 = .ok (.if_icmp .gt 108, 3) := by decide +kernel
theorem dX0_ticksByHands_24 : decode cX0_ticksByHands 24 = .ok (.iload 4, 2) := by decide +kernel
theorem dX0_ticksByHands_26 : decode cX0_ticksByHands 26 = .ok (.iload_n 3, 1) := by decide +kernel
theorem dX0_ticksByHands_27 : decode cX0_ticksByHands 27 = .ok (.if_icmp .ne 6, 3) := by decide +kernel
theorem dX0_ticksByHands_30 : decode cX0_ticksByHands 30 = .ok (.iload 7, 2) := by decide +kernel
theorem dX0_ticksByHands_32 : decode cX0_ticksByHands 32 = .ok (.ireturn, 1) := by decide +kernel
theorem dX0_ticksByHands_33 : decode cX0_ticksByHands 33 = .ok (.aload_n 0, 1) := by decide +kernel
theorem dX0_ticksByHands_34 : decode cX0_ticksByHands 34 = .ok (.getfield 15, 3) := by decide +kernel
theorem dX0_ticksByHands_37 : decode cX0_ticksByHands 37 = .ok (.iload 4, 2) := by decide +kernel
theorem dX0_ticksByHands_39 : decode cX0_ticksByHands 39 = .ok (.invokevirtual 28, 3) := by decide +kernel
theorem dX0_ticksByHands_42 : decode cX0_ticksByHands 42 = .ok (.istore 8, 2) := by decide +kernel
theorem dX0_ticksByHands_44 : decode cX0_ticksByHands 44 = .ok (.iload 8, 2) := by decide +kernel
theorem dX0_ticksByHands_46 : decode cX0_ticksByHands 46 = .ok (.iload_n 3, 1) := by decide +kernel
theorem dX0_ticksByHands_47 : decode cX0_ticksByHands 47 = .ok (.if_icmp .eq 63, 3) := by decide +kernel
theorem dX0_ticksByHands_50 : decode cX0_ticksByHands 50 = .ok (.lload 5, 2) := by decide +kernel
theorem dX0_ticksByHands_52 : decode cX0_ticksByHands 52 = .ok (.lconst 0, 1) := by decide +kernel
theorem dX0_ticksByHands_53 : decode cX0_ticksByHands 53 = .ok (.lcmp, 1) := by decide +kernel
theorem dX0_ticksByHands_54 : decode cX0_ticksByHands 54 = .ok (.ifCond .le 56, 3) := by decide +kernel
theorem dX0_ticksByHands_57 : decode cX0_ticksByHands 57 = .ok (.lload 5, 2) := by decide +kernel
theorem dX0_ticksByHands_59 : decode cX0_ticksByHands 59 = .ok (.ldc2_w 49, 3) := by decide +kernel
theorem dX0_ticksByHands_62 : decode cX0_ticksByHands 62 = .ok (.lrem, 1) := by decide +kernel
theorem dX0_ticksByHands_63 : decode cX0_ticksByHands 63 = .ok (.l2i, 1) := by decide +kernel
theorem dX0_ticksByHands_64 : decode cX0_ticksByHands 64 = .ok (.iconst 1, 1) := by decide +kernel
theorem dX0_ticksByHands_65 : decode cX0_ticksByHands 65 = .ok (.isub, 1) := by decide +kernel
theorem dX0_ticksByHands_66 : decode cX0_ticksByHands 66 = .ok (.istore 9, 2) := by decide +kernel
theorem dX0_ticksByHands_68 : decode cX0_ticksByHands 68 = .ok (.aload_n 0, 1) := by decide +kernel
theorem dX0_ticksByHands_69 : decode cX0_ticksByHands 69 = .ok (.getfield 15, 3) := by decide +kernel
theorem dX0_ticksByHands_72 : decode cX0_ticksByHands 72 = .ok (.iload 9, 2) := by decide +kernel
theorem dX0_ticksByHands_74 : decode cX0_ticksByHands 74 = .ok (.invokevirtual 51, 3) := by decide +kernel
theorem dX0_ticksByHands_77 : decode cX0_ticksByHands 77 = .ok (.ifCond .eq 13, 3) := by decide +kernel
theorem dX0_ticksByHands_80 : decode cX0_ticksByHands 80 = .ok (.iload 8, 2) := by decide +kernel
theorem dX0_ticksByHands_82 : decode cX0_ticksByHands 82 = .ok (.iload 9, 2) := by decide +kernel
theorem dX0_ticksByHands_84 : decode cX0_ticksByHands 84 = .ok (.invokestatic 39, 3) := by decide +kernel
theorem dX0_ticksByHands_87 : decode cX0_ticksByHands 87 = .ok (.ifCond .eq 6, 3) := by decide +kernel
theorem dX0_ticksByHands_90 : decode cX0_ticksByHands 90 = .ok (.bipush (-2), 2) := by decide +kernel
theorem dX0_ticksByHands_92 : decode cX0_ticksByHands 92 = .ok (.ireturn, 1) := by decide +kernel
theorem dX0_ticksByHands_93 : decode cX0_ticksByHands 93 = .ok (.iload 8, 2) := by decide +kernel
theorem dX0_ticksByHands_95 : decode cX0_ticksByHands 95 = .ok (.iconst 1, 1) := by decide +kernel
theorem dX0_ticksByHands_96 : decode cX0_ticksByHands 96 = .ok (.iload 9, 2) := by decide +kernel
theorem dX0_ticksByHands_98 : decode cX0_ticksByHands 98 = .ok (.ishl, 1) := by decide +kernel
theorem dX0_ticksByHands_99 : decode cX0_ticksByHands 99 = .ok (.ior, 1) := by decide +kernel
theorem dX0_ticksByHands_100 : decode cX0_ticksByHands 100 = .ok (.istore 8, 2) := by decide +kernel
theorem dX0_ticksByHands_102 : decode cX0_ticksByHands 102 = .ok (.lload 5, 2) := by decide +kernel
theorem dX0_ticksByHands_104 : decode cX0_ticksByHands 104 = .ok (.ldc2_w 49, 3) := by decide +kernel
theorem dX0_ticksByHands_107 : decode cX0_ticksByHands 107 = .ok (.ldiv, 1) := by decide +kernel
theorem dX0_ticksByHands_108 : decode cX0_ticksByHands 108 = .ok (.lstore 5, 2) := by decide +kernel
theorem dX0_ticksByHands_110 : decode cX0_ticksByHands 110 = .ok (.iload 8, 2) := by decide +kernel
theorem dX0_ticksByHands_112 : decode cX0_ticksByHands 112 = .ok (.iload 4, 2) := by decide +kernel
theorem dX0_ticksByHands_114 : decode cX0_ticksByHands 114 = .ok (.if_icmp .ne 5, 3) := by decide +kernel
theorem dX0_ticksByHands_117 : decode cX0_ticksByHands 117 = .ok (.iconst (-1), 1) := by decide +kernel
theorem dX0_ticksByHands_118 : decode cX0_ticksByHands 118 = .ok (.ireturn, 1) := by decide +kernel
theorem dX0_ticksByHands_119 : decode cX0_ticksByHands 119 = .ok (.iload 8, 2) := by decide +kernel
theorem dX0_ticksByHands_121 : decode cX0_ticksByHands 121 = .ok (.istore 4, 2) := by decide +kernel
theorem dX0_ticksByHands_123 : decode cX0_ticksByHands 123 = .ok (.iinc 7 1, 3) := by decide +kernel
theorem dX0_ticksByHands_126 : decode cX0_ticksByHands 126 = .ok (.goto (-109), 3) := by decide +kernel
theorem dX0_ticksByHands_129 : decode cX0_ticksByHands 129 = .ok (.iconst (-1), 1) := by decide +kernel
theorem dX0_ticksByHands_130 : decode cX0_ticksByHands 130 = .ok (.ireturn, 1) := by decide +kernel
