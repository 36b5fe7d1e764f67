theorem dX3_init_0 : decode cX3_init 0 = .ok (.aload_n 0, 1) := by decide +kernel
theorem dX3_init_1 : decode cX3_init 1 = .ok (.invokespecial 3, 3) := by decide +kernel
theorem dX3_init_4 : decode cX3_init 4 = .ok (.aload_n 0, 1) := by decide +kernel
theorem dX3_init_5 : decode cX3_init 5 = .ok (.iconst 3, 1) := by decide +kernel
theorem dX3_init_6 : decode cX3_init 6 = .ok (.sipush 4096, 3) := by decide +kernel
theorem dX3_init_9 : decode cX3_init 9 = .ok (.multianewarray 9 2, 4) := by decide +kernel
theorem dX3_init_13 : decode cX3_init 13 = .ok (.putfield 11, 3) := by decide +kernel
theorem dX3_init_16 : decode cX3_init 16 = .ok (.aload_n 0, 1) := by decide +kernel
theorem dX3_init_17 : decode cX3_init 17 = .ok (.iconst 3, 1) := by decide +kernel
theorem dX3_init_18 : decode cX3_init 18 = .ok (.newarray .int, 2) := by decide +kernel
theorem dX3_init_20 : decode cX3_init 20 = .ok (.putfield 16, 3) := by decide +kernel
theorem dX3_init_23 : decode cX3_init 23 = .ok (.aload_n 0, 1) := by decide +kernel
theorem dX3_init_24 : decode cX3_init 24 = .ok (.aload_n 1, 1) := by decide +kernel
theorem dX3_init_25 : decode cX3_init 25 = .ok (.putfield 20, 3) := by decide +kernel
theorem dX3_init_28 : decode cX3_init 28 = .ok (.aload_n 0, 1) := by decide +kernel
theorem dX3_init_29 : decode cX3_init 29 = .ok (.aload_n 2, 1) := by decide +kernel
theorem dX3_init_30 : decode cX3_init 30 = .ok (.putfield 24, 3) := by decide +kernel
theorem dX3_init_33 : decode cX3_init 33 = .ok (.return_, 1) := by decide +kernel
theorem dX3_winsOf_0 : decode cX3_winsOf 0 = .ok (.aload_n 0, 1) := by decide +kernel
theorem dX3_winsOf_1 : decode cX3_winsOf 1 = .ok (.getfield 11, 3) := by decide +kernel
theorem dX3_winsOf_4 : decode cX3_winsOf 4 = .ok (.iload_n 1, 1) := by decide +kernel
theorem dX3_winsOf_5 : decode cX3_winsOf 5 = .ok (.aaload, 1) := by decide +kernel
theorem dX3_winsOf_6 : decode cX3_winsOf 6 = .ok (.astore_n 2, 1) := by decide +kernel
theorem dX3_winsOf_7 : decode cX3_winsOf 7 = .ok (.aload_n 0, 1) := by decide +kernel
theorem dX3_winsOf_8 : decode cX3_winsOf 8 = .ok (.getfield 16, 3) := by decide +kernel
theorem dX3_winsOf_11 : decode cX3_winsOf 11 = .ok (.iload_n 1, 1) := by decide +kernel
theorem dX3_winsOf_12 : decode cX3_winsOf 12 = .ok (.iaload, 1) := by decide +kernel
theorem dX3_winsOf_13 : decode cX3_winsOf 13 = .ok (.aload_n 0, 1) := by decide +kernel
theorem dX3_winsOf_14 : decode cX3_winsOf 14 = .ok (.getfield 20, 3) := by decide +kernel
theorem dX3_winsOf_17 : decode cX3_winsOf 17 = .ok (.iload_n 1, 1) := by decide +kernel
theorem dX3_winsOf_18 : decode cX3_winsOf 18 = .ok (.invokevirtual 28, 3) := by decide +kernel
theorem dX3_winsOf_21 : decode cX3_winsOf 21 = .ok (.if_icmp .eq 68, 3) := by decide +kernel
theorem dX3_winsOf_24 : decode cX3_winsOf 24 = .ok (.aload_n 0, 1) := by decide +kernel
theorem dX3_winsOf_25 : decode cX3_winsOf 25 = .ok (.getfield 24, 3) := by decide +kernel
theorem dX3_winsOf_28 : decode cX3_winsOf 28 = .ok (.iload_n 1, 1) := by decide +kernel
theorem dX3_winsOf_29 : decode cX3_winsOf 29 = .ok (.invokevirtual 34, 3) := by decide +kernel
theorem dX3_winsOf_32 : decode cX3_winsOf 32 = .ok (.astore_n 3, 1) := by decide +kernel
theorem dX3_winsOf_33 : decode cX3_winsOf 33 = .ok (.aload_n 0, 1) := by decide +kernel
theorem dX3_winsOf_34 : decode cX3_winsOf 34 = .ok (.getfield 20, 3) := by decide +kernel
theorem dX3_winsOf_37 : decode cX3_winsOf 37 = .ok (.invokevirtual 40, 3) := by decide +kernel
theorem dX3_winsOf_40 : decode cX3_winsOf 40 = .ok (.istore 4, 2) := by decide +kernel
theorem dX3_winsOf_42 : decode cX3_winsOf 42 = .ok (.iload 4, 2) := by decide +kernel
theorem dX3_winsOf_44 : decode cX3_winsOf 44 = .ok (.ifCond .lt 31, 3) := by decide +kernel
theorem dX3_winsOf_47 : decode cX3_winsOf 47 = .ok (.aload_n 2, 1) := by decide +kernel
theorem dX3_winsOf_48 : decode cX3_winsOf 48 = .ok (.iload 4, 2) := by decide +kernel
theorem dX3_winsOf_50 : decode cX3_winsOf 50 = .ok (.aload_n 0, 1) := by decide +kernel
theorem dX3_winsOf_51 : decode cX3_winsOf 51 = .ok (.aload_n 2, 1) := by decide +kernel
theorem dX3_winsOf_52 : decode cX3_winsOf 52 = .ok (.aload_n 3, 1) := by decide +kernel
theorem dX3_winsOf_53 : decode cX3_winsOf 53 = .ok (.iload 4, 2) := by decide +kernel
theorem dX3_winsOf_55 : decode cX3_winsOf 55 = .ok (.invokevirtual 44, 3) := by decide +kernel
theorem dX3_winsOf_58 : decode cX3_winsOf 58 = .ok (.iconst (-1), 1) := by decide +kernel
theorem dX3_winsOf_59 : decode cX3_winsOf 59 = .ok (.if_icmp .ne 7, 3) := by decide +kernel
theorem dX3_winsOf_62 : decode cX3_winsOf 62 = .ok (.iconst 0, 1) := by decide +kernel
theorem dX3_winsOf_63 : decode cX3_winsOf 63 = .ok (.goto 4, 3) := by decide +kernel
theorem dX3_winsOf_66 : decode cX3_winsOf 66 = .ok (.iconst 1, 1) := by decide +kernel
theorem dX3_winsOf_67 : decode cX3_winsOf 67 = .ok (.i2b, 1) := by decide +kernel
theorem dX3_winsOf_68 : decode cX3_winsOf 68 = .ok (.bastore, 1) := by decide +kernel
theorem dX3_winsOf_69 : decode cX3_winsOf 69 = .ok (.iinc 4 (-1), 3) := by decide +kernel
theorem dX3_winsOf_72 : decode cX3_winsOf 72 = .ok (.goto (-30), 3) := by decide +kernel
theorem dX3_winsOf_75 : decode cX3_winsOf 75 = .ok (.aload_n 0, 1) := by decide +kernel
theorem dX3_winsOf_76 : decode cX3_winsOf 76 = .ok (.getfield 16, 3) := by decide +kernel
theorem dX3_winsOf_79 : decode cX3_winsOf 79 = .ok (.iload_n 1, 1) := by decide +kernel
theorem dX3_winsOf_80 : decode cX3_winsOf 80 = .ok (.aload_n 0, 1) := by decide +kernel
theorem dX3_winsOf_81 : decode cX3_winsOf 81 = .ok (.getfield 20, 3) := by decide +kernel
theorem dX3_winsOf_84 : decode cX3_winsOf 84 = .ok (.iload_n 1, 1) := by decide +kernel
theorem dX3_winsOf_85 : decode cX3_winsOf 85 = .ok (.invokevirtual 28, 3) := by decide +kernel
theorem dX3_winsOf_88 : decode cX3_winsOf 88 = .ok (.iastore, 1) := by decide +kernel
theorem dX3_winsOf_89 : decode cX3_winsOf 89 = .ok (.aload_n 2, 1) := by decide +kernel
theorem dX3_winsOf_90 : decode cX3_winsOf 90 = .ok (.areturn, 1) := by decide +kernel
theorem dX3_winningPost_0 : decode cX3_winningPost 0 = .ok (.iconst 0, 1) := by decide +kernel
theorem dX3_winningPost_1 : decode cX3_winningPost 1 = .ok (.istore 4, 2) := by decide +kernel
theorem dX3_winningPost_3 : decode cX3_winningPost 3 = .ok (.iload 4, 2) := by decide +kernel
theorem dX3_winningPost_5 : decode cX3_winningPost 5 = .ok (.aload_n 0, 1) := by decide +kernel
theorem dX3_winningPost_6 : decode cX3_winningPost 6 = .ok (.getfield 20, 3) := by decide +kernel
theorem dX3_winningPost_9 : decode cX3_winningPost 9 = .ok (.getfield 48, 3) := by decide +kernel
theorem dX3_winningPost_12 : decode cX3_winningPost 12 = .ok (.if_icmp .ge 34, 3) := by decide +kernel
theorem dX3_winningPost_15 : decode cX3_winningPost 15 = .ok (.iload_n 3, 1) := by decide +kernel
theorem dX3_winningPost_16 : decode cX3_winningPost 16 = .ok (.iload 4, 2) := by decide +kernel
theorem dX3_winningPost_18 : decode cX3_winningPost 18 = .ok (.invokestatic 52, 3) := by decide +kernel
theorem dX3_winningPost_21 : decode cX3_winningPost 21 = .ok (.ifCond .ne 19, 3) := by decide +kernel
theorem dX3_winningPost_24 : decode cX3_winningPost 24 = .ok (.aload_n 1, 1) := by decide +kernel
theorem dX3_winningPost_25 : decode cX3_winningPost 25 = .ok (.aload_n 2, 1) := by decide +kernel
theorem dX3_winningPost_26 : decode cX3_winningPost 26 = .ok (.iload_n 3, 1) := by decide +kernel
theorem dX3_winningPost_27 : decode cX3_winningPost 27 = .ok (.iconst 1, 1) := by decide +kernel
theorem dX3_winningPost_28 : decode cX3_winningPost 28 = .ok (.iload 4, 2) := by decide +kernel
theorem dX3_winningPost_30 : decode cX3_winningPost 30 = .ok (.ishl, 1) := by decide +kernel
theorem dX3_winningPost_31 : decode cX3_winningPost 31 = .ok (.ior, 1) := by decide +kernel
theorem dX3_winningPost_32 : decode cX3_winningPost 32 = .ok (.iaload, 1) := by decide +kernel
theorem dX3_winningPost_33 : decode cX3_winningPost 33 = .ok (.baload, 1) := by decide +kernel
theorem dX3_winningPost_34 : decode cX3_winningPost 34 = .ok (.ifCond .ne 6, 3) := by decide +kernel
theorem dX3_winningPost_37 : decode cX3_winningPost 37 = .ok (.iload 4, 2) := by decide +kernel
theorem dX3_winningPost_39 : decode cX3_winningPost 39 = .ok (.ireturn, 1) := by decide +kernel
theorem dX3_winningPost_40 : decode cX3_winningPost 40 = .ok (.iinc 4 1, 3) := by decide +kernel
theorem dX3_winningPost_43 : decode cX3_winningPost 43 = .ok (.goto (-40), 3) := by decide +kernel
theorem dX3_winningPost_46 : decode cX3_winningPost 46 = .ok (.iconst (-1), 1) := by decide +kernel
theorem dX3_winningPost_47 : decode cX3_winningPost 47 = .ok (.ireturn, 1) := by decide +kernel
