theorem dX4_init_0 : decode cX4_init 0 = .ok (.aload_n 0, 1) := by decide +kernel
theorem dX4_init_1 : decode cX4_init 1 = .ok (.invokespecial 3, 3) := by decide +kernel
theorem dX4_init_4 : decode cX4_init 4 = .ok (.aload_n 0, 1) := by decide +kernel
theorem dX4_init_5 : decode cX4_init 5 = .ok (.iconst 1, 1) := by decide +kernel
theorem dX4_init_6 : decode cX4_init 6 = .ok (.putfield 9, 3) := by decide +kernel
theorem dX4_init_9 : decode cX4_init 9 = .ok (.aload_n 0, 1) := by decide +kernel
theorem dX4_init_10 : decode cX4_init 10 = .ok (.bipush 12, 2) := by decide +kernel
theorem dX4_init_12 : decode cX4_init 12 = .ok (.newarray .int, 2) := by decide +kernel
theorem dX4_init_14 : decode cX4_init 14 = .ok (.putfield 15, 3) := by decide +kernel
theorem dX4_init_17 : decode cX4_init 17 = .ok (.aload_n 0, 1) := by decide +kernel
theorem dX4_init_18 : decode cX4_init 18 = .ok (.bipush 12, 2) := by decide +kernel
theorem dX4_init_20 : decode cX4_init 20 = .ok (.newarray .int, 2) := by decide +kernel
theorem dX4_init_22 : decode cX4_init 22 = .ok (.putfield 19, 3) := by decide +kernel
theorem dX4_init_25 : decode cX4_init 25 = .ok (.aload_n 0, 1) := by decide +kernel
theorem dX4_init_26 : decode cX4_init 26 = .ok (.bipush 12, 2) := by decide +kernel
theorem dX4_init_28 : decode cX4_init 28 = .ok (.bipush 12, 2) := by decide +kernel
theorem dX4_init_30 : decode cX4_init 30 = .ok (.multianewarray 22 2, 4) := by decide +kernel
theorem dX4_init_34 : decode cX4_init 34 = .ok (.putfield 24, 3) := by decide +kernel
theorem dX4_init_37 : decode cX4_init 37 = .ok (.aload_n 0, 1) := by decide +kernel
theorem dX4_init_38 : decode cX4_init 38 = .ok (.bipush 12, 2) := by decide +kernel
theorem dX4_init_40 : decode cX4_init 40 = .ok (.newarray .int, 2) := by decide +kernel
theorem dX4_init_42 : decode cX4_init 42 = .ok (.putfield 27, 3) := by decide +kernel
theorem dX4_init_45 : decode cX4_init 45 = .ok (.aload_n 0, 1) := by decide +kernel
theorem dX4_init_46 : decode cX4_init 46 = .ok (.bipush 12, 2) := by decide +kernel
theorem dX4_init_48 : decode cX4_init 48 = .ok (.newarray .int, 2) := by decide +kernel
theorem dX4_init_50 : decode cX4_init 50 = .ok (.putfield 30, 3) := by decide +kernel
theorem dX4_init_53 : decode cX4_init 53 = .ok (.return_, 1) := by decide +kernel
theorem dX4_isPost_0 : decode cX4_isPost 0 = .ok (.iload_n 1, 1) := by decide +kernel
theorem dX4_isPost_1 : decode cX4_isPost 1 = .ok (.ifCond .lt 15, 3) := by decide +kernel
theorem dX4_isPost_4 : decode cX4_isPost 4 = .ok (.iload_n 1, 1) := by decide +kernel
theorem dX4_isPost_5 : decode cX4_isPost 5 = .ok (.aload_n 0, 1) := by decide +kernel
theorem dX4_isPost_6 : decode cX4_isPost 6 = .ok (.getfield 33, 3) := by decide +kernel
theorem dX4_isPost_9 : decode cX4_isPost 9 = .ok (.if_icmp .ge 7, 3) := by decide +kernel
theorem dX4_isPost_12 : decode cX4_isPost 12 = .ok (.iconst 1, 1) := by decide +kernel
theorem dX4_isPost_13 : decode cX4_isPost 13 = .ok (.goto 4, 3) := by decide +kernel
theorem dX4_isPost_16 : decode cX4_isPost 16 = .ok (.iconst 0, 1) := by decide +kernel
theorem dX4_isPost_17 : decode cX4_isPost 17 = .ok (.ireturn, 1) := by decide +kernel
theorem dX4_isSet_0 : decode cX4_isSet 0 = .ok (.iload_n 1, 1) := by decide +kernel
theorem dX4_isSet_1 : decode cX4_isSet 1 = .ok (.ifCond .lt 15, 3) := by decide +kernel
theorem dX4_isSet_4 : decode cX4_isSet 4 = .ok (.iload_n 1, 1) := by decide +kernel
theorem dX4_isSet_5 : decode cX4_isSet 5 = .ok (.aload_n 0, 1) := by decide +kernel
theorem dX4_isSet_6 : decode cX4_isSet 6 = .ok (.invokevirtual 36, 3) := by decide +kernel
theorem dX4_isSet_9 : decode cX4_isSet 9 = .ok (.if_icmp .gt 7, 3) := by decide +kernel
theorem dX4_isSet_12 : decode cX4_isSet 12 = .ok (.iconst 1, 1) := by decide +kernel
theorem dX4_isSet_13 : decode cX4_isSet 13 = .ok (.goto 4, 3) := by decide +kernel
theorem dX4_isSet_16 : decode cX4_isSet 16 = .ok (.iconst 0, 1) := by decide +kernel
theorem dX4_isSet_17 : decode cX4_isSet 17 = .ok (.ireturn, 1) := by decide +kernel
theorem dX4_allPosts_0 : decode cX4_allPosts 0 = .ok (.iconst 1, 1) := by decide +kernel
theorem dX4_allPosts_1 : decode cX4_allPosts 1 = .ok (.aload_n 0, 1) := by decide +kernel
theorem dX4_allPosts_2 : decode cX4_allPosts 2 = .ok (.getfield 33, 3) := by decide +kernel
theorem dX4_allPosts_5 : decode cX4_allPosts 5 = .ok (.ishl, 1) := by decide +kernel
theorem dX4_allPosts_6 : decode cX4_allPosts 6 = .ok (.iconst 1, 1) := by decide +kernel
theorem dX4_allPosts_7 : decode cX4_allPosts 7 = .ok (.isub, 1) := by decide +kernel
theorem dX4_allPosts_8 : decode cX4_allPosts 8 = .ok (.ireturn, 1) := by decide +kernel
theorem dX4_versionOf_0 : decode cX4_versionOf 0 = .ok (.iload_n 1, 1) := by decide +kernel
theorem dX4_versionOf_1 : decode cX4_versionOf 1 = .ok (.ifCond .ne 15, 3) := by decide +kernel
theorem dX4_versionOf_4 : decode cX4_versionOf 4 = .ok (.aload_n 0, 1) := by decide +kernel
theorem dX4_versionOf_5 : decode cX4_versionOf 5 = .ok (.getfield 9, 3) := by decide +kernel
theorem dX4_versionOf_8 : decode cX4_versionOf 8 = .ok (.aload_n 0, 1) := by decide +kernel
theorem dX4_versionOf_9 : decode cX4_versionOf 9 = .ok (.getfield 40, 3) := by decide +kernel
theorem dX4_versionOf_12 : decode cX4_versionOf 12 = .ok (.iadd, 1) := by decide +kernel
theorem dX4_versionOf_13 : decode cX4_versionOf 13 = .ok (.goto 7, 3) := by decide +kernel
theorem dX4_versionOf_16 : decode cX4_versionOf 16 = .ok (.aload_n 0, 1) := by decide +kernel
theorem dX4_versionOf_17 : decode cX4_versionOf 17 = .ok (.getfield 9, 3) := by decide +kernel
theorem dX4_versionOf_20 : decode cX4_versionOf 20 = .ok (.ireturn, 1) := by decide +kernel
theorem dX4_addPost_0 : decode cX4_addPost 0 = .ok (.aload_n 0, 1) := by decide +kernel
theorem dX4_addPost_1 : decode cX4_addPost 1 = .ok (.getfield 33, 3) := by decide +kernel
theorem dX4_addPost_4 : decode cX4_addPost 4 = .ok (.istore_n 1, 1) := by decide +kernel
theorem dX4_addPost_5 : decode cX4_addPost 5 = .ok (.aload_n 0, 1) := by decide +kernel
theorem dX4_addPost_6 : decode cX4_addPost 6 = .ok (.getfield 15, 3) := by decide +kernel
theorem dX4_addPost_9 : decode cX4_addPost 9 = .ok (.iload_n 1, 1) := by decide +kernel
theorem dX4_addPost_10 : decode cX4_addPost 10 = .ok (.iconst 1, 1) := by decide +kernel
theorem dX4_addPost_11 : decode cX4_addPost 11 = .ok (.iastore, 1) := by decide +kernel
theorem dX4_addPost_12 : decode cX4_addPost 12 = .ok (.aload_n 0, 1) := by decide +kernel
theorem dX4_addPost_13 : decode cX4_addPost 13 = .ok (.getfield 19, 3) := by decide +kernel
theorem dX4_addPost_16 : decode cX4_addPost 16 = .ok (.iload_n 1, 1) := by decide +kernel
theorem dX4_addPost_17 : decode cX4_addPost 17 = .ok (.iconst 1, 1) := by decide +kernel
theorem dX4_addPost_18 : decode cX4_addPost 18 = .ok (.iastore, 1) := by decide +kernel
theorem dX4_addPost_19 : decode cX4_addPost 19 = .ok (.aload_n 0, 1) := by decide +kernel
theorem dX4_addPost_20 : decode cX4_addPost 20 = .ok (.dup, 1) := by decide +kernel
theorem dX4_addPost_21 : decode cX4_addPost 21 = .ok (.getfield 33, 3) := by decide +kernel
theorem dX4_addPost_24 : decode cX4_addPost 24 = .ok (.iconst 1, 1) := by decide +kernel
theorem dX4_addPost_25 : decode cX4_addPost 25 = .ok (.iadd, 1) := by decide +kernel
theorem dX4_addPost_26 : decode cX4_addPost 26 = .ok (.putfield 33, 3) := by decide +kernel
theorem dX4_addPost_29 : decode cX4_addPost 29 = .ok (.aload_n 0, 1) := by decide +kernel
theorem dX4_addPost_30 : decode cX4_addPost 30 = .ok (.dup, 1) := by decide +kernel
theorem dX4_addPost_31 : decode cX4_addPost 31 = .ok (.getfield 9, 3) := by decide +kernel
theorem dX4_addPost_34 : decode cX4_addPost 34 = .ok (.iconst 1, 1) := by decide +kernel
theorem dX4_addPost_35 : decode cX4_addPost 35 = .ok (.iadd, 1) := by decide +kernel
theorem dX4_addPost_36 : decode cX4_addPost 36 = .ok (.putfield 9, 3) := by decide +kernel
theorem dX4_addPost_39 : decode cX4_addPost 39 = .ok (.iload_n 1, 1) := by decide +kernel
theorem dX4_addPost_40 : decode cX4_addPost 40 = .ok (.ireturn, 1) := by decide +kernel
theorem dX4_setWeight_0 : decode cX4_setWeight 0 = .ok (.aload_n 0, 1) := by decide +kernel
theorem dX4_setWeight_1 : decode cX4_setWeight 1 = .ok (.getfield 24, 3) := by decide +kernel
theorem dX4_setWeight_4 : decode cX4_setWeight 4 = .ok (.iload_n 1, 1) := by decide +kernel
theorem dX4_setWeight_5 : decode cX4_setWeight 5 = .ok (.aaload, 1) := by decide +kernel
theorem dX4_setWeight_6 : decode cX4_setWeight 6 = .ok (.iload_n 2, 1) := by decide +kernel
theorem dX4_setWeight_7 : decode cX4_setWeight 7 = .ok (.iaload, 1) := by decide +kernel
theorem dX4_setWeight_8 : decode cX4_setWeight 8 = .ok (.istore 4, 2) := by decide +kernel
theorem dX4_setWeight_10 : decode cX4_setWeight 10 = .ok (.aload_n 0, 1) := by decide +kernel
theorem dX4_setWeight_11 : decode cX4_setWeight 11 = .ok (.getfield 24, 3) := by decide +kernel
theorem dX4_setWeight_14 : decode cX4_setWeight 14 = .ok (.iload_n 1, 1) := by decide +kernel
theorem dX4_setWeight_15 : decode cX4_setWeight 15 = .ok (.aaload, 1) := by decide +kernel
theorem dX4_setWeight_16 : decode cX4_setWeight 16 = .ok (.iload_n 2, 1) := by decide +kernel
theorem dX4_setWeight_17 : decode cX4_setWeight 17 = .ok (.iload_n 3, 1) := by decide +kernel
theorem dX4_setWeight_18 : decode cX4_setWeight 18 = .ok (.iastore, 1) := by decide +kernel
theorem dX4_setWeight_19 : decode cX4_setWeight 19 = .ok (.iload_n 3, 1) := by decide +kernel
theorem dX4_setWeight_20 : decode cX4_setWeight 20 = .ok (.ifCond .ne 34, 3) := by decide +kernel
theorem dX4_setWeight_23 : decode cX4_setWeight 23 = .ok (.aload_n 0, 1) := by decide +kernel
theorem dX4_setWeight_24 : decode cX4_setWeight 24 = .ok (.getfield 27, 3) := by decide +kernel
theorem dX4_setWeight_27 : decode cX4_setWeight 27 = .ok (.iload_n 1, 1) := by decide +kernel
theorem dX4_setWeight_28 : decode cX4_setWeight 28 = .ok (.dup2, 1) := by decide +kernel
theorem dX4_setWeight_29 : decode cX4_setWeight 29 = .ok (.iaload, 1) := by decide +kernel
theorem dX4_setWeight_30 : decode cX4_setWeight 30 = .ok (.iconst 1, 1) := by decide +kernel
theorem dX4_setWeight_31 : decode cX4_setWeight 31 = .ok (.iload_n 2, 1) := by decide +kernel
theorem dX4_setWeight_32 : decode cX4_setWeight 32 = .ok (.ishl, 1) := by decide +kernel
theorem dX4_setWeight_33 : decode cX4_setWeight 33 = .ok (.iconst (-1), 1) := by decide +kernel
theorem dX4_setWeight_34 : decode cX4_setWeight 34 = .ok (.ixor, 1) := by decide +kernel
theorem dX4_setWeight_35 : decode cX4_setWeight 35 = .ok (.iand, 1) := by decide +kernel
theorem dX4_setWeight_36 : decode cX4_setWeight 36 = .ok (.iastore, 1) := by decide +kernel
theorem dX4_setWeight_37 : decode cX4_setWeight 37 = .ok (.aload_n 0, 1) := by decide +kernel
theorem dX4_setWeight_38 : decode cX4_setWeight 38 = .ok (.getfield 30, 3) := by decide +kernel
theorem dX4_setWeight_41 : decode cX4_setWeight 41 = .ok (.iload_n 2, 1) := by decide +kernel
theorem dX4_setWeight_42 : decode cX4_setWeight 42 = .ok (.dup2, 1) := by decide +kernel
theorem dX4_setWeight_43 : decode cX4_setWeight 43 = .ok (.iaload, 1) := by decide +kernel
theorem dX4_setWeight_44 : decode cX4_setWeight 44 = .ok (.iconst 1, 1) := by decide +kernel
theorem dX4_setWeight_45 : decode cX4_setWeight 45 = .ok (.iload_n 1, 1) := by decide +kernel
theorem dX4_setWeight_46 : decode cX4_setWeight 46 = .ok (.ishl, 1) := by decide +kernel
theorem dX4_setWeight_47 : decode cX4_setWeight 47 = .ok (.iconst (-1), 1) := by decide +kernel
theorem dX4_setWeight_48 : decode cX4_setWeight 48 = .ok (.ixor, 1) := by decide +kernel
theorem dX4_setWeight_49 : decode cX4_setWeight 49 = .ok (.iand, 1) := by decide +kernel
theorem dX4_setWeight_50 : decode cX4_setWeight 50 = .ok (.iastore, 1) := by decide +kernel
theorem dX4_setWeight_51 : decode cX4_setWeight 51 = .ok (.goto 27, 3) := by decide +kernel
theorem dX4_setWeight_54 : decode cX4_setWeight 54 = .ok (.aload_n 0, 1) := by decide +kernel
theorem dX4_setWeight_55 : decode cX4_setWeight 55 = .ok (.getfield 27, 3) := by decide +kernel
theorem dX4_setWeight_58 : decode cX4_setWeight 58 = .ok (.iload_n 1, 1) := by decide +kernel
theorem dX4_setWeight_59 : decode cX4_setWeight 59 = .ok (.dup2, 1) := by decide +kernel
theorem dX4_setWeight_60 : decode cX4_setWeight 60 = .ok (.iaload, 1) := by decide +kernel
theorem dX4_setWeight_61 : decode cX4_setWeight 61 = .ok (.iconst 1, 1) := by decide +kernel
theorem dX4_setWeight_62 : decode cX4_setWeight 62 = .ok (.iload_n 2, 1) := by decide +kernel
theorem dX4_setWeight_63 : decode cX4_setWeight 63 = .ok (.ishl, 1) := by decide +kernel
theorem dX4_setWeight_64 : decode cX4_setWeight 64 = .ok (.ior, 1) := by decide +kernel
theorem dX4_setWeight_65 : decode cX4_setWeight 65 = .ok (.iastore, 1) := by decide +kernel
theorem dX4_setWeight_66 : decode cX4_setWeight 66 = .ok (.aload_n 0, 1) := by decide +kernel
theorem dX4_setWeight_67 : decode cX4_setWeight 67 = .ok (.getfield 30, 3) := by decide +kernel
theorem dX4_setWeight_70 : decode cX4_setWeight 70 = .ok (.iload_n 2, 1) := by decide +kernel
theorem dX4_setWeight_71 : decode cX4_setWeight 71 = .ok (.dup2, 1) := by decide +kernel
theorem dX4_setWeight_72 : decode cX4_setWeight 72 = .ok (.iaload, 1) := by decide +kernel
theorem dX4_setWeight_73 : decode cX4_setWeight 73 = .ok (.iconst 1, 1) := by decide +kernel
theorem dX4_setWeight_74 : decode cX4_setWeight 74 = .ok (.iload_n 1, 1) := by decide +kernel
theorem dX4_setWeight_75 : decode cX4_setWeight 75 = .ok (.ishl, 1) := by decide +kernel
theorem dX4_setWeight_76 : decode cX4_setWeight 76 = .ok (.ior, 1) := by decide +kernel
theorem dX4_setWeight_77 : decode cX4_setWeight 77 = .ok (.iastore, 1) := by decide +kernel
theorem dX4_setWeight_78 : decode cX4_setWeight 78 = .ok (.aload_n 0, 1) := by decide +kernel
theorem dX4_setWeight_79 : decode cX4_setWeight 79 = .ok (.dup, 1) := by decide +kernel
theorem dX4_setWeight_80 : decode cX4_setWeight 80 = .ok (.getfield 9, 3) := by decide +kernel
theorem dX4_setWeight_83 : decode cX4_setWeight 83 = .ok (.iconst 1, 1) := by decide +kernel
theorem dX4_setWeight_84 : decode cX4_setWeight 84 = .ok (.iadd, 1) := by decide +kernel
theorem dX4_setWeight_85 : decode cX4_setWeight 85 = .ok (.putfield 9, 3) := by decide +kernel
theorem dX4_setWeight_88 : decode cX4_setWeight 88 = .ok (.iload 4, 2) := by decide +kernel
theorem dX4_setWeight_90 : decode cX4_setWeight 90 = .ok (.ireturn, 1) := by decide +kernel
theorem dX4_setBar_0 : decode cX4_setBar 0 = .ok (.aload_n 0, 1) := by decide +kernel
theorem dX4_setBar_1 : decode cX4_setBar 1 = .ok (.getfield 15, 3) := by decide +kernel
theorem dX4_setBar_4 : decode cX4_setBar 4 = .ok (.iload_n 1, 1) := by decide +kernel
theorem dX4_setBar_5 : decode cX4_setBar 5 = .ok (.iaload, 1) := by decide +kernel
theorem dX4_setBar_6 : decode cX4_setBar 6 = .ok (.istore_n 3, 1) := by decide +kernel
theorem dX4_setBar_7 : decode cX4_setBar 7 = .ok (.aload_n 0, 1) := by decide +kernel
theorem dX4_setBar_8 : decode cX4_setBar 8 = .ok (.getfield 15, 3) := by decide +kernel
theorem dX4_setBar_11 : decode cX4_setBar 11 = .ok (.iload_n 1, 1) := by decide +kernel
theorem dX4_setBar_12 : decode cX4_setBar 12 = .ok (.iload_n 2, 1) := by decide +kernel
theorem dX4_setBar_13 : decode cX4_setBar 13 = .ok (.iastore, 1) := by decide +kernel
theorem dX4_setBar_14 : decode cX4_setBar 14 = .ok (.aload_n 0, 1) := by decide +kernel
theorem dX4_setBar_15 : decode cX4_setBar 15 = .ok (.dup, 1) := by decide +kernel
theorem dX4_setBar_16 : decode cX4_setBar 16 = .ok (.getfield 40, 3) := by decide +kernel
theorem dX4_setBar_19 : decode cX4_setBar 19 = .ok (.iconst 1, 1) := by decide +kernel
theorem dX4_setBar_20 : decode cX4_setBar 20 = .ok (.iadd, 1) := by decide +kernel
theorem dX4_setBar_21 : decode cX4_setBar 21 = .ok (.putfield 40, 3) := by decide +kernel
theorem dX4_setBar_24 : decode cX4_setBar 24 = .ok (.iload_n 3, 1) := by decide +kernel
theorem dX4_setBar_25 : decode cX4_setBar 25 = .ok (.ireturn, 1) := by decide +kernel
theorem dX4_setPrice_0 : decode cX4_setPrice 0 = .ok (.aload_n 0, 1) := by decide +kernel
theorem dX4_setPrice_1 : decode cX4_setPrice 1 = .ok (.getfield 19, 3) := by decide +kernel
theorem dX4_setPrice_4 : decode cX4_setPrice 4 = .ok (.iload_n 1, 1) := by decide +kernel
theorem dX4_setPrice_5 : decode cX4_setPrice 5 = .ok (.iaload, 1) := by decide +kernel
theorem dX4_setPrice_6 : decode cX4_setPrice 6 = .ok (.istore_n 3, 1) := by decide +kernel
theorem dX4_setPrice_7 : decode cX4_setPrice 7 = .ok (.aload_n 0, 1) := by decide +kernel
theorem dX4_setPrice_8 : decode cX4_setPrice 8 = .ok (.getfield 19, 3) := by decide +kernel
theorem dX4_setPrice_11 : decode cX4_setPrice 11 = .ok (.iload_n 1, 1) := by decide +kernel
theorem dX4_setPrice_12 : decode cX4_setPrice 12 = .ok (.iload_n 2, 1) := by decide +kernel
theorem dX4_setPrice_13 : decode cX4_setPrice 13 = .ok (.iastore, 1) := by decide +kernel
theorem dX4_setPrice_14 : decode cX4_setPrice 14 = .ok (.iload_n 3, 1) := by decide +kernel
theorem dX4_setPrice_15 : decode cX4_setPrice 15 = .ok (.ireturn, 1) := by decide +kernel
theorem dX4_priceOf_0 : decode cX4_priceOf 0 = .ok (.iconst 0, 1) := by decide +kernel
theorem dX4_priceOf_1 : decode cX4_priceOf 1 = .ok (.istore_n 2, 1) := by decide +kernel
theorem dX4_priceOf_2 : decode cX4_priceOf 2 = .ok (.iconst 0, 1) := by decide +kernel
theorem dX4_priceOf_3 : decode cX4_priceOf 3 = .ok (.istore_n 3, 1) := by decide +kernel
theorem dX4_priceOf_4 : decode cX4_priceOf 4 = .ok (.iload_n 3, 1) := by decide +kernel
theorem dX4_priceOf_5 : decode cX4_priceOf 5 = .ok (.aload_n 0, 1) := by decide +kernel
theorem dX4_priceOf_6 : decode cX4_priceOf 6 = .ok (.getfield 33, 3) := by decide +kernel
theorem dX4_priceOf_9 : decode cX4_priceOf 9 = .ok (.if_icmp .ge 26, 3) := by decide +kernel
theorem dX4_priceOf_12 : decode cX4_priceOf 12 = .ok (.iload_n 1, 1) := by decide +kernel
theorem dX4_priceOf_13 : decode cX4_priceOf 13 = .ok (.iload_n 3, 1) := by decide +kernel
theorem dX4_priceOf_14 : decode cX4_priceOf 14 = .ok (.invokestatic 43, 3) := by decide +kernel
theorem dX4_priceOf_17 : decode cX4_priceOf 17 = .ok (.ifCond .eq 12, 3) := by decide +kernel
theorem dX4_priceOf_20 : decode cX4_priceOf 20 = .ok (.iload_n 2, 1) := by decide +kernel
theorem dX4_priceOf_21 : decode cX4_priceOf 21 = .ok (.aload_n 0, 1) := by decide +kernel
theorem dX4_priceOf_22 : decode cX4_priceOf 22 = .ok (.getfield 19, 3) := by decide +kernel
theorem dX4_priceOf_25 : decode cX4_priceOf 25 = .ok (.iload_n 3, 1) := by decide +kernel
theorem dX4_priceOf_26 : decode cX4_priceOf 26 = .ok (.iaload, 1) := by decide +kernel
theorem dX4_priceOf_27 : decode cX4_priceOf 27 = .ok (.iadd, 1) := by decide +kernel
theorem dX4_priceOf_28 : decode cX4_priceOf 28 = .ok (.istore_n 2, 1) := by decide +kernel
theorem dX4_priceOf_29 : decode cX4_priceOf 29 = .ok (.iinc 3 1, 3) := by decide +kernel
theorem dX4_priceOf_32 : decode cX4_priceOf 32 = .ok (.goto (-28), 3) := by decide +kernel
theorem dX4_priceOf_35 : decode cX4_priceOf 35 = .ok (.iload_n 2, 1) := by decide +kernel
theorem dX4_priceOf_36 : decode cX4_priceOf 36 = .ok (.ireturn, 1) := by decide +kernel
theorem dX4_weightOnto_0 : decode cX4_weightOnto 0 = .ok (.iload_n 2, 1) := by decide +kernel
theorem dX4_weightOnto_1 : decode cX4_weightOnto 1 = .ok (.aload_n 0, 1) := by decide +kernel
theorem dX4_weightOnto_2 : decode cX4_weightOnto 2 = .ok (.getfield 30, 3) := by decide +kernel
theorem dX4_weightOnto_5 : decode cX4_weightOnto 5 = .ok (.iload_n 1, 1) := by decide +kernel
theorem dX4_weightOnto_6 : decode cX4_weightOnto 6 = .ok (.iaload, 1) := by decide +kernel
theorem dX4_weightOnto_7 : decode cX4_weightOnto 7 = .ok (.iand, 1) := by decide +kernel
theorem dX4_weightOnto_8 : decode cX4_weightOnto 8 = .ok (.istore_n 3, 1) := by decide +kernel
theorem dX4_weightOnto_9 : decode cX4_weightOnto 9 = .ok (.iconst 0, 1) := by decide +kernel
theorem dX4_weightOnto_10 : decode cX4_weightOnto 10 = .ok (.istore 4, 2) := by decide +kernel
theorem dX4_weightOnto_12 : decode cX4_weightOnto 12 = .ok (.iconst 0, 1) := by decide +kernel
theorem dX4_weightOnto_13 : decode cX4_weightOnto 13 = .ok (.istore 5, 2) := by decide +kernel
theorem dX4_weightOnto_15 : decode cX4_weightOnto 15 = .ok (.iload 5, 2) := by decide +kernel
theorem dX4_weightOnto_17 : decode cX4_weightOnto 17 = .ok (.aload_n 0, 1) := by decide +kernel
theorem dX4_weightOnto_18 : decode cX4_weightOnto 18 = .ok (.getfield 33, 3) := by decide +kernel
theorem dX4_weightOnto_21 : decode cX4_weightOnto 21 = .ok (.if_icmp .ge 37, 3) := by decide +kernel
theorem dX4_weightOnto_24 : decode cX4_weightOnto 24 = .ok (.iload_n 3, 1) := by decide +kernel
theorem dX4_weightOnto_25 : decode cX4_weightOnto 25 = .ok (.iload 5, 2) := by decide +kernel
theorem dX4_weightOnto_27 : decode cX4_weightOnto 27 = .ok (.ishr, 1) := by decide +kernel
theorem dX4_weightOnto_28 : decode cX4_weightOnto 28 = .ok (.ifCond .eq 30, 3) := by decide +kernel
theorem dX4_weightOnto_31 : decode cX4_weightOnto 31 = .ok (.iload 4, 2) := by decide +kernel
theorem dX4_weightOnto_33 : decode cX4_weightOnto 33 = .ok (.iload_n 3, 1) := by decide +kernel
theorem dX4_weightOnto_34 : decode cX4_weightOnto 34 = .ok (.iload 5, 2) := by decide +kernel
theorem dX4_weightOnto_36 : decode cX4_weightOnto 36 = .ok (.ishr, 1) := by decide +kernel
theorem dX4_weightOnto_37 : decode cX4_weightOnto 37 = .ok (.iconst 1, 1) := by decide +kernel
theorem dX4_weightOnto_38 : decode cX4_weightOnto 38 = .ok (.iand, 1) := by decide +kernel
theorem dX4_weightOnto_39 : decode cX4_weightOnto 39 = .ok (.aload_n 0, 1) := by decide +kernel
theorem dX4_weightOnto_40 : decode cX4_weightOnto 40 = .ok (.getfield 24, 3) := by decide +kernel
theorem dX4_weightOnto_43 : decode cX4_weightOnto 43 = .ok (.iload 5, 2) := by decide +kernel
theorem dX4_weightOnto_45 : decode cX4_weightOnto 45 = .ok (.aaload, 1) := by decide +kernel
theorem dX4_weightOnto_46 : decode cX4_weightOnto 46 = .ok (.iload_n 1, 1) := by decide +kernel
theorem dX4_weightOnto_47 : decode cX4_weightOnto 47 = .ok (.iaload, 1) := by decide +kernel
theorem dX4_weightOnto_48 : decode cX4_weightOnto 48 = .ok (.imul, 1) := by decide +kernel
theorem dX4_weightOnto_49 : decode cX4_weightOnto 49 = .ok (.iadd, 1) := by decide +kernel
theorem dX4_weightOnto_50 : decode cX4_weightOnto 50 = .ok (.istore 4, 2) := by decide +kernel
theorem dX4_weightOnto_52 : decode cX4_weightOnto 52 = .ok (.iinc 5 1, 3) := by decide +kernel
theorem dX4_weightOnto_55 : decode cX4_weightOnto 55 = .ok (.goto (-40), 3) := by decide +kernel
theorem dX4_weightOnto_58 : decode cX4_weightOnto 58 = .ok (.iload 4, 2) := by decide +kernel
theorem dX4_weightOnto_60 : decode cX4_weightOnto 60 = .ok (.ireturn, 1) := by decide +kernel
theorem dX4_withBehind_0 : decode cX4_withBehind 0 = .ok (.iload_n 1, 1) := by decide +kernel
theorem dX4_withBehind_1 : decode cX4_withBehind 1 = .ok (.istore_n 2, 1) := by decide +kernel
theorem dX4_withBehind_2 : decode cX4_withBehind 2 = .ok (.iconst 0, 1) := by decide +kernel
theorem dX4_withBehind_3 : decode cX4_withBehind 3 = .ok (.istore_n 3, 1) := by decide +kernel
theorem dX4_withBehind_4 : decode cX4_withBehind 4 = .ok (.iload_n 3, 1) := by decide +kernel
theorem dX4_withBehind_5 : decode cX4_withBehind 5 = .ok (.aload_n 0, 1) := by decide +kernel
theorem dX4_withBehind_6 : decode cX4_withBehind 6 = .ok (.getfield 33, 3) := by decide +kernel
theorem dX4_withBehind_9 : decode cX4_withBehind 9 = .ok (.if_icmp .ge 26, 3) := by decide +kernel
theorem dX4_withBehind_12 : decode cX4_withBehind 12 = .ok (.iload_n 1, 1) := by decide +kernel
theorem dX4_withBehind_13 : decode cX4_withBehind 13 = .ok (.iload_n 3, 1) := by decide +kernel
theorem dX4_withBehind_14 : decode cX4_withBehind 14 = .ok (.invokestatic 43, 3) := by decide +kernel
theorem dX4_withBehind_17 : decode cX4_withBehind 17 = .ok (.ifCond .eq 12, 3) := by decide +kernel
theorem dX4_withBehind_20 : decode cX4_withBehind 20 = .ok (.iload_n 2, 1) := by decide +kernel
theorem dX4_withBehind_21 : decode cX4_withBehind 21 = .ok (.aload_n 0, 1) := by decide +kernel
theorem dX4_withBehind_22 : decode cX4_withBehind 22 = .ok (.getfield 27, 3) := by decide +kernel
theorem dX4_withBehind_25 : decode cX4_withBehind 25 = .ok (.iload_n 3, 1) := by decide +kernel
theorem dX4_withBehind_26 : decode cX4_withBehind 26 = .ok (.iaload, 1) := by decide +kernel
theorem dX4_withBehind_27 : decode cX4_withBehind 27 = .ok (.ior, 1) := by decide +kernel
theorem dX4_withBehind_28 : decode cX4_withBehind 28 = .ok (.istore_n 2, 1) := by decide +kernel
theorem dX4_withBehind_29 : decode cX4_withBehind 29 = .ok (.iinc 3 1, 3) := by decide +kernel
theorem dX4_withBehind_32 : decode cX4_withBehind 32 = .ok (.goto (-28), 3) := by decide +kernel
theorem dX4_withBehind_35 : decode cX4_withBehind 35 = .ok (.iload_n 2, 1) := by decide +kernel
theorem dX4_withBehind_36 : decode cX4_withBehind 36 = .ok (.ireturn, 1) := by decide +kernel
