theorem dX2_init_0 : decode cX2_init 0 = .ok (.aload_n 0, 1) := by decide +kernel
theorem dX2_init_1 : decode cX2_init 1 = .ok (.invokespecial 3, 3) := by decide +kernel
theorem dX2_init_4 : decode cX2_init 4 = .ok (.aload_n 0, 1) := by decide +kernel
theorem dX2_init_5 : decode cX2_init 5 = .ok (.aload_n 1, 1) := by decide +kernel
theorem dX2_init_6 : decode cX2_init 6 = .ok (.putfield 9, 3) := by decide +kernel
theorem dX2_init_9 : decode cX2_init 9 = .ok (.return_, 1) := by decide +kernel
theorem dX2_saved_0 : decode cX2_saved 0 = .ok (.aload_n 0, 1) := by decide +kernel
theorem dX2_saved_1 : decode cX2_saved 1 = .ok (.iload_n 1, 1) := by decide +kernel
theorem dX2_saved_2 : decode cX2_saved 2 = .ok (.iconst 0, 1) := by decide +kernel
theorem dX2_saved_3 : decode cX2_saved 3 = .ok (.iconst 0, 1) := by decide +kernel
theorem dX2_saved_4 : decode cX2_saved 4 = .ok (.invokevirtual 15, 3) := by decide +kernel
theorem dX2_saved_7 : decode cX2_saved 7 = .ok (.ireturn, 1) := by decide +kernel
theorem dX2_mostSaved_0 : decode cX2_mostSaved 0 = .ok (.aload_n 0, 1) := by decide +kernel
theorem dX2_mostSaved_1 : decode cX2_mostSaved 1 = .ok (.getfield 9, 3) := by decide +kernel
theorem dX2_mostSaved_4 : decode cX2_mostSaved 4 = .ok (.invokevirtual 19, 3) := by decide +kernel
theorem dX2_mostSaved_7 : decode cX2_mostSaved 7 = .ok (.iload_n 1, 1) := by decide +kernel
theorem dX2_mostSaved_8 : decode cX2_mostSaved 8 = .ok (.iload_n 2, 1) := by decide +kernel
theorem dX2_mostSaved_9 : decode cX2_mostSaved 9 = .ok (.ior, 1) := by decide +kernel
theorem dX2_mostSaved_10 : decode cX2_mostSaved 10 = .ok (.iconst (-1), 1) := by decide +kernel
theorem dX2_mostSaved_11 : decode cX2_mostSaved 11 = .ok (.ixor, 1) := by decide +kernel
theorem dX2_mostSaved_12 : decode cX2_mostSaved 12 = .ok (.iand, 1) := by decide +kernel
theorem dX2_mostSaved_13 : decode cX2_mostSaved 13 = .ok (.istore 4, 2) := by decide +kernel
theorem dX2_mostSaved_15 : decode cX2_mostSaved 15 = .ok (.iload 4, 2) := by decide +kernel
theorem dX2_mostSaved_17 : decode cX2_mostSaved 17 = .ok (.ifCond .eq 9, 3) := by decide +kernel
theorem dX2_mostSaved_20 : decode cX2_mostSaved 20 = .ok (.iload_n 3, 1) := by decide +kernel
theorem dX2_mostSaved_21 : decode cX2_mostSaved 21 = .ok (.bipush 12, 2) := by decide +kernel
theorem dX2_mostSaved_23 : decode cX2_mostSaved 23 = .ok (.if_icmp .le 16, 3) := by decide +kernel
theorem dX2_mostSaved_26 : decode cX2_mostSaved 26 = .ok (.aload_n 0, 1) := by decide +kernel
theorem dX2_mostSaved_27 : decode cX2_mostSaved 27 = .ok (.getfield 9, 3) := by decide +kernel
theorem dX2_mostSaved_30 : decode cX2_mostSaved 30 = .ok (.getfield 25, 3) := by decide +kernel
theorem dX2_mostSaved_33 : decode cX2_mostSaved 33 = .ok (.iload_n 1, 1) := by decide +kernel
theorem dX2_mostSaved_34 : decode cX2_mostSaved 34 = .ok (.invokestatic 29, 3) := by decide +kernel
theorem dX2_mostSaved_37 : decode cX2_mostSaved 37 = .ok (.isub, 1) := by decide +kernel
theorem dX2_mostSaved_38 : decode cX2_mostSaved 38 = .ok (.ireturn, 1) := by decide +kernel
theorem dX2_mostSaved_39 : decode cX2_mostSaved 39 = .ok (.iconst 0, 1) := by decide +kernel
theorem dX2_mostSaved_40 : decode cX2_mostSaved 40 = .ok (.istore 5, 2) := by decide +kernel
theorem dX2_mostSaved_42 : decode cX2_mostSaved 42 = .ok (.iconst 0, 1) := by decide +kernel
theorem dX2_mostSaved_43 : decode cX2_mostSaved 43 = .ok (.istore 6, 2) := by decide +kernel
theorem dX2_mostSaved_45 : decode cX2_mostSaved 45 = .ok (.iload 6, 2) := by decide +kernel
theorem dX2_mostSaved_47 : decode cX2_mostSaved 47 = .ok (.aload_n 0, 1) := by decide +kernel
theorem dX2_mostSaved_48 : decode cX2_mostSaved 48 = .ok (.getfield 9, 3) := by decide +kernel
theorem dX2_mostSaved_51 : decode cX2_mostSaved 51 = .ok (.getfield 25, 3) := by decide +kernel
theorem dX2_mostSaved_54 : decode cX2_mostSaved 54 = .ok (.if_icmp .ge 38, 3) := by decide +kernel
theorem dX2_mostSaved_57 : decode cX2_mostSaved 57 = .ok (.iload 4, 2) := by decide +kernel
theorem dX2_mostSaved_59 : decode cX2_mostSaved 59 = .ok (.iload 6, 2) := by decide +kernel
theorem dX2_mostSaved_61 : decode cX2_mostSaved 61 = .ok (.invokestatic 35, 3) := by decide +kernel
theorem dX2_mostSaved_64 : decode cX2_mostSaved 64 = .ok (.ifCond .eq 22, 3) := by decide +kernel
theorem dX2_mostSaved_67 : decode cX2_mostSaved 67 = .ok (.iload 5, 2) := by decide +kernel
theorem dX2_mostSaved_69 : decode cX2_mostSaved 69 = .ok (.aload_n 0, 1) := by decide +kernel
theorem dX2_mostSaved_70 : decode cX2_mostSaved 70 = .ok (.iload_n 1, 1) := by decide +kernel
theorem dX2_mostSaved_71 : decode cX2_mostSaved 71 = .ok (.iload_n 2, 1) := by decide +kernel
theorem dX2_mostSaved_72 : decode cX2_mostSaved 72 = .ok (.iconst 1, 1) := by decide +kernel
theorem dX2_mostSaved_73 : decode cX2_mostSaved 73 = .ok (.iload 6, 2) := by decide +kernel
theorem dX2_mostSaved_75 : decode cX2_mostSaved 75 = .ok (.ishl, 1) := by decide +kernel
theorem dX2_mostSaved_76 : decode cX2_mostSaved 76 = .ok (.ior, 1) := by decide +kernel
theorem dX2_mostSaved_77 : decode cX2_mostSaved 77 = .ok (.iload_n 3, 1) := by decide +kernel
theorem dX2_mostSaved_78 : decode cX2_mostSaved 78 = .ok (.invokevirtual 39, 3) := by decide +kernel
theorem dX2_mostSaved_81 : decode cX2_mostSaved 81 = .ok (.invokestatic 42, 3) := by decide +kernel
theorem dX2_mostSaved_84 : decode cX2_mostSaved 84 = .ok (.istore 5, 2) := by decide +kernel
theorem dX2_mostSaved_86 : decode cX2_mostSaved 86 = .ok (.iinc 6 1, 3) := by decide +kernel
theorem dX2_mostSaved_89 : decode cX2_mostSaved 89 = .ok (.goto (-44), 3) := by decide +kernel
theorem dX2_mostSaved_92 : decode cX2_mostSaved 92 = .ok (.iload 5, 2) := by decide +kernel
theorem dX2_mostSaved_94 : decode cX2_mostSaved 94 = .ok (.ireturn, 1) := by decide +kernel
theorem dX2_savedBehind_0 : decode cX2_savedBehind 0 = .ok (.aload_n 0, 1) := by decide +kernel
theorem dX2_savedBehind_1 : decode cX2_savedBehind 1 = .ok (.iload_n 1, 1) := by decide +kernel
theorem dX2_savedBehind_2 : decode cX2_savedBehind 2 = .ok (.iload_n 2, 1) := by decide +kernel
theorem dX2_savedBehind_3 : decode cX2_savedBehind 3 = .ok (.invokevirtual 48, 3) := by decide +kernel
theorem dX2_savedBehind_6 : decode cX2_savedBehind 6 = .ok (.istore 4, 2) := by decide +kernel
theorem dX2_savedBehind_8 : decode cX2_savedBehind 8 = .ok (.iload 4, 2) := by decide +kernel
theorem dX2_savedBehind_10 : decode cX2_savedBehind 10 = .ok (.iload_n 1, 1) := by decide +kernel
theorem dX2_savedBehind_11 : decode cX2_savedBehind 11 = .ok (.if_icmp .ne 16, 3) := by decide +kernel
theorem dX2_savedBehind_14 : decode cX2_savedBehind 14 = .ok (.aload_n 0, 1) := by decide +kernel
theorem dX2_savedBehind_15 : decode cX2_savedBehind 15 = .ok (.getfield 9, 3) := by decide +kernel
theorem dX2_savedBehind_18 : decode cX2_savedBehind 18 = .ok (.getfield 25, 3) := by decide +kernel
theorem dX2_savedBehind_21 : decode cX2_savedBehind 21 = .ok (.iload_n 1, 1) := by decide +kernel
theorem dX2_savedBehind_22 : decode cX2_savedBehind 22 = .ok (.invokestatic 29, 3) := by decide +kernel
theorem dX2_savedBehind_25 : decode cX2_savedBehind 25 = .ok (.isub, 1) := by decide +kernel
theorem dX2_savedBehind_26 : decode cX2_savedBehind 26 = .ok (.ireturn, 1) := by decide +kernel
theorem dX2_savedBehind_27 : decode cX2_savedBehind 27 = .ok (.aload_n 0, 1) := by decide +kernel
theorem dX2_savedBehind_28 : decode cX2_savedBehind 28 = .ok (.iload 4, 2) := by decide +kernel
theorem dX2_savedBehind_30 : decode cX2_savedBehind 30 = .ok (.iload_n 2, 1) := by decide +kernel
theorem dX2_savedBehind_31 : decode cX2_savedBehind 31 = .ok (.iload_n 3, 1) := by decide +kernel
theorem dX2_savedBehind_32 : decode cX2_savedBehind 32 = .ok (.iconst 1, 1) := by decide +kernel
theorem dX2_savedBehind_33 : decode cX2_savedBehind 33 = .ok (.iadd, 1) := by decide +kernel
theorem dX2_savedBehind_34 : decode cX2_savedBehind 34 = .ok (.invokevirtual 15, 3) := by decide +kernel
theorem dX2_savedBehind_37 : decode cX2_savedBehind 37 = .ok (.ireturn, 1) := by decide +kernel
theorem dX2_afterTick_0 : decode cX2_afterTick 0 = .ok (.aload_n 0, 1) := by decide +kernel
theorem dX2_afterTick_1 : decode cX2_afterTick 1 = .ok (.getfield 9, 3) := by decide +kernel
theorem dX2_afterTick_4 : decode cX2_afterTick 4 = .ok (.iload_n 1, 1) := by decide +kernel
theorem dX2_afterTick_5 : decode cX2_afterTick 5 = .ok (.invokevirtual 51, 3) := by decide +kernel
theorem dX2_afterTick_8 : decode cX2_afterTick 8 = .ok (.iload_n 2, 1) := by decide +kernel
theorem dX2_afterTick_9 : decode cX2_afterTick 9 = .ok (.iconst (-1), 1) := by decide +kernel
theorem dX2_afterTick_10 : decode cX2_afterTick 10 = .ok (.ixor, 1) := by decide +kernel
theorem dX2_afterTick_11 : decode cX2_afterTick 11 = .ok (.iand, 1) := by decide +kernel
theorem dX2_afterTick_12 : decode cX2_afterTick 12 = .ok (.ireturn, 1) := by decide +kernel
theorem dX2_bestWall_0 : decode cX2_bestWall 0 = .ok (.iload_n 1, 1) := by decide +kernel
theorem dX2_bestWall_1 : decode cX2_bestWall 1 = .ok (.istore_n 3, 1) := by decide +kernel
theorem dX2_bestWall_2 : decode cX2_bestWall 2 = .ok (.iconst 0, 1) := by decide +kernel
theorem dX2_bestWall_3 : decode cX2_bestWall 3 = .ok (.istore 4, 2) := by decide +kernel
theorem dX2_bestWall_5 : decode cX2_bestWall 5 = .ok (.iconst 0, 1) := by decide +kernel
theorem dX2_bestWall_6 : decode cX2_bestWall 6 = .ok (.istore 5, 2) := by decide +kernel
theorem dX2_bestWall_8 : decode cX2_bestWall 8 = .ok (.iload 5, 2) := by decide +kernel
theorem dX2_bestWall_10 : decode cX2_bestWall 10 = .ok (.bipush 12, 2) := by decide +kernel
theorem dX2_bestWall_12 : decode cX2_bestWall 12 = .ok (.if_icmp .ge 62, 3) := by decide +kernel
theorem dX2_bestWall_15 : decode cX2_bestWall 15 = .ok (.aload_n 0, 1) := by decide +kernel
theorem dX2_bestWall_16 : decode cX2_bestWall 16 = .ok (.iload_n 3, 1) := by decide +kernel
theorem dX2_bestWall_17 : decode cX2_bestWall 17 = .ok (.iload 4, 2) := by decide +kernel
theorem dX2_bestWall_19 : decode cX2_bestWall 19 = .ok (.invokevirtual 54, 3) := by decide +kernel
theorem dX2_bestWall_22 : decode cX2_bestWall 22 = .ok (.istore 6, 2) := by decide +kernel
theorem dX2_bestWall_24 : decode cX2_bestWall 24 = .ok (.iload 6, 2) := by decide +kernel
theorem dX2_bestWall_26 : decode cX2_bestWall 26 = .ok (.iconst (-1), 1) := by decide +kernel
theorem dX2_bestWall_27 : decode cX2_bestWall 27 = .ok (.if_icmp .eq 9, 3) := by decide +kernel
theorem dX2_bestWall_30 : decode cX2_bestWall 30 = .ok (.iload 5, 2) := by decide +kernel
theorem dX2_bestWall_32 : decode cX2_bestWall 32 = .ok (.iload_n 2, 1) := by decide +kernel
theorem dX2_bestWall_33 : decode cX2_bestWall 33 = .ok (.if_icmp .ne 6, 3) := by decide +kernel
theorem dX2_bestWall_36 : decode cX2_bestWall 36 = .ok (.iload 6, 2) := by decide +kernel
theorem dX2_bestWall_38 : decode cX2_bestWall 38 = .ok (.ireturn, 1) := by decide +kernel
theorem dX2_bestWall_39 : decode cX2_bestWall 39 = .ok (.iload 4, 2) := by decide +kernel
theorem dX2_bestWall_41 : decode cX2_bestWall 41 = .ok (.iconst 1, 1) := by decide +kernel
theorem dX2_bestWall_42 : decode cX2_bestWall 42 = .ok (.iload 6, 2) := by decide +kernel
theorem dX2_bestWall_44 : decode cX2_bestWall 44 = .ok (.ishl, 1) := by decide +kernel
theorem dX2_bestWall_45 : decode cX2_bestWall 45 = .ok (.ior, 1) := by decide +kernel
theorem dX2_bestWall_46 : decode cX2_bestWall 46 = .ok (.istore 4, 2) := by decide +kernel
theorem dX2_bestWall_48 : decode cX2_bestWall 48 = .ok (.aload_n 0, 1) := by decide +kernel
theorem dX2_bestWall_49 : decode cX2_bestWall 49 = .ok (.iload_n 3, 1) := by decide +kernel
theorem dX2_bestWall_50 : decode cX2_bestWall 50 = .ok (.iload 4, 2) := by decide +kernel
theorem dX2_bestWall_52 : decode cX2_bestWall 52 = .ok (.invokevirtual 48, 3) := by decide +kernel
theorem dX2_bestWall_55 : decode cX2_bestWall 55 = .ok (.istore 7, 2) := by decide +kernel
theorem dX2_bestWall_57 : decode cX2_bestWall 57 = .ok (.iload 7, 2) := by decide +kernel
theorem dX2_bestWall_59 : decode cX2_bestWall 59 = .ok (.iload_n 3, 1) := by decide +kernel
theorem dX2_bestWall_60 : decode cX2_bestWall 60 = .ok (.if_icmp .ne 5, 3) := by decide +kernel
theorem dX2_bestWall_63 : decode cX2_bestWall 63 = .ok (.iconst (-1), 1) := by decide +kernel
theorem dX2_bestWall_64 : decode cX2_bestWall 64 = .ok (.ireturn, 1) := by decide +kernel
theorem dX2_bestWall_65 : decode cX2_bestWall 65 = .ok (.iload 7, 2) := by decide +kernel
theorem dX2_bestWall_67 : decode cX2_bestWall 67 = .ok (.istore_n 3, 1) := by decide +kernel
theorem dX2_bestWall_68 : decode cX2_bestWall 68 = .ok (.iinc 5 1, 3) := by decide +kernel
theorem dX2_bestWall_71 : decode cX2_bestWall 71 = .ok (.goto (-63), 3) := by decide +kernel
theorem dX2_bestWall_74 : decode cX2_bestWall 74 = .ok (.iconst (-1), 1) := by decide +kernel
theorem dX2_bestWall_75 : decode cX2_bestWall 75 = .ok (.ireturn, 1) := by decide +kernel
theorem dX2_bestPost_0 : decode cX2_bestPost 0 = .ok (.iconst (-1), 1) := by decide +kernel
theorem dX2_bestPost_1 : decode cX2_bestPost 1 = .ok (.istore_n 3, 1) := by decide +kernel
theorem dX2_bestPost_2 : decode cX2_bestPost 2 = .ok (.iconst (-1), 1) := by decide +kernel
theorem dX2_bestPost_3 : decode cX2_bestPost 3 = .ok (.istore 4, 2) := by decide +kernel
theorem dX2_bestPost_5 : decode cX2_bestPost 5 = .ok (.iconst 0, 1) := by decide +kernel
theorem dX2_bestPost_6 : decode cX2_bestPost 6 = .ok (.istore 5, 2) := by decide +kernel
theorem dX2_bestPost_8 : decode cX2_bestPost 8 = .ok (.iload 5, 2) := by decide +kernel
theorem dX2_bestPost_10 : decode cX2_bestPost 10 = .ok (.aload_n 0, 1) := by decide +kernel
theorem dX2_bestPost_11 : decode cX2_bestPost 11 = .ok (.getfield 9, 3) := by decide +kernel
theorem dX2_bestPost_14 : decode cX2_bestPost 14 = .ok (.getfield 25, 3) := by decide +kernel
theorem dX2_bestPost_17 : decode cX2_bestPost 17 = .ok (.if_icmp .ge 48, 3) := by decide +kernel
theorem dX2_bestPost_20 : decode cX2_bestPost 20 = .ok (.iload_n 1, 1) := by decide +kernel
theorem dX2_bestPost_21 : decode cX2_bestPost 21 = .ok (.iload_n 2, 1) := by decide +kernel
theorem dX2_bestPost_22 : decode cX2_bestPost 22 = .ok (.ior, 1) := by decide +kernel
theorem dX2_bestPost_23 : decode cX2_bestPost 23 = .ok (.iload 5, 2) := by decide +kernel
theorem dX2_bestPost_25 : decode cX2_bestPost 25 = .ok (.invokestatic 35, 3) := by decide +kernel
theorem dX2_bestPost_28 : decode cX2_bestPost 28 = .ok (.ifCond .ne 31, 3) := by decide +kernel
theorem dX2_bestPost_31 : decode cX2_bestPost 31 = .ok (.aload_n 0, 1) := by decide +kernel
theorem dX2_bestPost_32 : decode cX2_bestPost 32 = .ok (.iload_n 1, 1) := by decide +kernel
theorem dX2_bestPost_33 : decode cX2_bestPost 33 = .ok (.iload_n 2, 1) := by decide +kernel
theorem dX2_bestPost_34 : decode cX2_bestPost 34 = .ok (.iconst 1, 1) := by decide +kernel
theorem dX2_bestPost_35 : decode cX2_bestPost 35 = .ok (.iload 5, 2) := by decide +kernel
theorem dX2_bestPost_37 : decode cX2_bestPost 37 = .ok (.ishl, 1) := by decide +kernel
theorem dX2_bestPost_38 : decode cX2_bestPost 38 = .ok (.ior, 1) := by decide +kernel
theorem dX2_bestPost_39 : decode cX2_bestPost 39 = .ok (.iconst 0, 1) := by decide +kernel
theorem dX2_bestPost_40 : decode cX2_bestPost 40 = .ok (.invokevirtual 39, 3) := by decide +kernel
theorem dX2_bestPost_43 : decode cX2_bestPost 43 = .ok (.istore 6, 2) := by decide +kernel
theorem dX2_bestPost_45 : decode cX2_bestPost 45 = .ok (.iload 6, 2) := by decide +kernel
theorem dX2_bestPost_47 : decode cX2_bestPost 47 = .ok (.iload 4, 2) := by decide +kernel
theorem dX2_bestPost_49 : decode cX2_bestPost 49 = .ok (.if_icmp .le 10, 3) := by decide +kernel
theorem dX2_bestPost_52 : decode cX2_bestPost 52 = .ok (.iload 5, 2) := by decide +kernel
theorem dX2_bestPost_54 : decode cX2_bestPost 54 = .ok (.istore_n 3, 1) := by decide +kernel
theorem dX2_bestPost_55 : decode cX2_bestPost 55 = .ok (.iload 6, 2) := by decide +kernel
theorem dX2_bestPost_57 : decode cX2_bestPost 57 = .ok (.istore 4, 2) := by decide +kernel
theorem dX2_bestPost_59 : decode cX2_bestPost 59 = .ok (.iinc 5 1, 3) := by decide +kernel
theorem dX2_bestPost_62 : decode cX2_bestPost 62 = .ok (.goto (-54), 3) := by decide +kernel
theorem dX2_bestPost_65 : decode cX2_bestPost 65 = .ok (.iload_n 3, 1) := by decide +kernel
theorem dX2_bestPost_66 : decode cX2_bestPost 66 = .ok (.ireturn, 1) := by decide +kernel
