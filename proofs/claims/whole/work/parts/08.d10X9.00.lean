theorem dX9_init_0 : decode cX9_init 0 = .ok (.aload_n 0, 1) := by decide +kernel
theorem dX9_init_1 : decode cX9_init 1 = .ok (.invokespecial 3, 3) := by decide +kernel
theorem dX9_init_4 : decode cX9_init 4 = .ok (.aload_n 0, 1) := by decide +kernel
theorem dX9_init_5 : decode cX9_init 5 = .ok (.new 9, 3) := by decide +kernel
theorem dX9_init_8 : decode cX9_init 8 = .ok (.dup, 1) := by decide +kernel
theorem dX9_init_9 : decode cX9_init 9 = .ok (.invokespecial 11, 3) := by decide +kernel
theorem dX9_init_12 : decode cX9_init 12 = .ok (.putfield 12, 3) := by decide +kernel
theorem dX9_init_15 : decode cX9_init 15 = .ok (.aload_n 0, 1) := by decide +kernel
theorem dX9_init_16 : decode cX9_init 16 = .ok (.new 16, 3) := by decide +kernel
theorem dX9_init_19 : decode cX9_init 19 = .ok (.dup, 1) := by decide +kernel
theorem dX9_init_20 : decode cX9_init 20 = .ok (.aload_n 0, 1) := by decide +kernel
theorem dX9_init_21 : decode cX9_init 21 = .ok (.getfield 12, 3) := by decide +kernel
theorem dX9_init_24 : decode cX9_init 24 = .ok (.invokespecial 18, 3) := by decide +kernel
theorem dX9_init_27 : decode cX9_init 27 = .ok (.putfield 21, 3) := by decide +kernel
theorem dX9_init_30 : decode cX9_init 30 = .ok (.aload_n 0, 1) := by decide +kernel
theorem dX9_init_31 : decode cX9_init 31 = .ok (.new 25, 3) := by decide +kernel
theorem dX9_init_34 : decode cX9_init 34 = .ok (.dup, 1) := by decide +kernel
theorem dX9_init_35 : decode cX9_init 35 = .ok (.aload_n 0, 1) := by decide +kernel
theorem dX9_init_36 : decode cX9_init 36 = .ok (.getfield 12, 3) := by decide +kernel
theorem dX9_init_39 : decode cX9_init 39 = .ok (.aload_n 0, 1) := by decide +kernel
theorem dX9_init_40 : decode cX9_init 40 = .ok (.getfield 21, 3) := by decide +kernel
theorem dX9_init_43 : decode cX9_init 43 = .ok (.invokespecial 27, 3) := by decide +kernel
theorem dX9_init_46 : decode cX9_init 46 = .ok (.putfield 30, 3) := by decide +kernel
theorem dX9_init_49 : decode cX9_init 49 = .ok (.aload_n 0, 1) := by decide +kernel
theorem dX9_init_50 : decode cX9_init 50 = .ok (.new 34, 3) := by decide +kernel
theorem dX9_init_53 : decode cX9_init 53 = .ok (.dup, 1) := by decide +kernel
theorem dX9_init_54 : decode cX9_init 54 = .ok (.aload_n 0, 1) := by decide +kernel
theorem dX9_init_55 : decode cX9_init 55 = .ok (.getfield 12, 3) := by decide +kernel
theorem dX9_init_58 : decode cX9_init 58 = .ok (.invokespecial 36, 3) := by decide +kernel
theorem dX9_init_61 : decode cX9_init 61 = .ok (.putfield 37, 3) := by decide +kernel
theorem dX9_init_64 : decode cX9_init 64 = .ok (.aload_n 0, 1) := by decide +kernel
theorem dX9_init_65 : decode cX9_init 65 = .ok (.new 41, 3) := by decide +kernel
theorem dX9_init_68 : decode cX9_init 68 = .ok (.dup, 1) := by decide +kernel
theorem dX9_init_69 : decode cX9_init 69 = .ok (.aload_n 0, 1) := by decide +kernel
theorem dX9_init_70 : decode cX9_init 70 = .ok (.getfield 12, 3) := by decide +kernel
theorem dX9_init_73 : decode cX9_init 73 = .ok (.aload_n 0, 1) := by decide +kernel
theorem dX9_init_74 : decode cX9_init 74 = .ok (.getfield 21, 3) := by decide +kernel
theorem dX9_init_77 : decode cX9_init 77 = .ok (.invokespecial 43, 3) := by decide +kernel
theorem dX9_init_80 : decode cX9_init 80 = .ok (.putfield 44, 3) := by decide +kernel
theorem dX9_init_83 : decode cX9_init 83 = .ok (.aload_n 0, 1) := by decide +kernel
theorem dX9_init_84 : decode cX9_init 84 = .ok (.new 48, 3) := by decide +kernel
theorem dX9_init_87 : decode cX9_init 87 = .ok (.dup, 1) := by decide +kernel
theorem dX9_init_88 : decode cX9_init 88 = .ok (.aload_n 0, 1) := by decide +kernel
theorem dX9_init_89 : decode cX9_init 89 = .ok (.getfield 12, 3) := by decide +kernel
theorem dX9_init_92 : decode cX9_init 92 = .ok (.invokespecial 50, 3) := by decide +kernel
theorem dX9_init_95 : decode cX9_init 95 = .ok (.putfield 51, 3) := by decide +kernel
theorem dX9_init_98 : decode cX9_init 98 = .ok (.aload_n 0, 1) := by decide +kernel
theorem dX9_init_99 : decode cX9_init 99 = .ok (.new 55, 3) := by decide +kernel
theorem dX9_init_102 : decode cX9_init 102 = .ok (.dup, 1) := by decide +kernel
theorem dX9_init_103 : decode cX9_init 103 = .ok (.aload_n 0, 1) := by decide +kernel
theorem dX9_init_104 : decode cX9_init 104 = .ok (.getfield 12, 3) := by decide +kernel
theorem dX9_init_107 : decode cX9_init 107 = .ok (.invokespecial 57, 3) := by decide +kernel
theorem dX9_init_110 : decode cX9_init 110 = .ok (.putfield 58, 3) := by decide +kernel
theorem dX9_init_113 : decode cX9_init 113 = .ok (.aload_n 0, 1) := by decide +kernel
theorem dX9_init_114 : decode cX9_init 114 = .ok (.new 62, 3) := by decide +kernel
theorem dX9_init_117 : decode cX9_init 117 = .ok (.dup, 1) := by decide +kernel
theorem dX9_init_118 : decode cX9_init 118 = .ok (.aload_n 0, 1) := by decide +kernel
theorem dX9_init_119 : decode cX9_init 119 = .ok (.getfield 12, 3) := by decide +kernel
theorem dX9_init_122 : decode cX9_init 122 = .ok (.invokespecial 64, 3) := by decide +kernel
theorem dX9_init_125 : decode cX9_init 125 = .ok (.putfield 65, 3) := by decide +kernel
theorem dX9_init_128 : decode cX9_init 128 = .ok (.aload_n 0, 1) := by decide +kernel
theorem dX9_init_129 : decode cX9_init 129 = .ok (.new 69, 3) := by decide +kernel
theorem dX9_init_132 : decode cX9_init 132 = .ok (.dup, 1) := by decide +kernel
theorem dX9_init_133 : decode cX9_init 133 = .ok (.aload_n 0, 1) := by decide +kernel
theorem dX9_init_134 : decode cX9_init 134 = .ok (.getfield 12, 3) := by decide +kernel
theorem dX9_init_137 : decode cX9_init 137 = .ok (.aload_n 0, 1) := by decide +kernel
theorem dX9_init_138 : decode cX9_init 138 = .ok (.getfield 21, 3) := by decide +kernel
theorem dX9_init_141 : decode cX9_init 141 = .ok (.invokespecial 71, 3) := by decide +kernel
theorem dX9_init_144 : decode cX9_init 144 = .ok (.putfield 72, 3) := by decide +kernel
theorem dX9_init_147 : decode cX9_init 147 = .ok (.return_, 1) := by decide +kernel
theorem dX9_post_0 : decode cX9_post 0 = .ok (.aload_n 0, 1) := by decide +kernel
theorem dX9_post_1 : decode cX9_post 1 = .ok (.getfield 12, 3) := by decide +kernel
theorem dX9_post_4 : decode cX9_post 4 = .ok (.getfield 76, 3) := by decide +kernel
theorem dX9_post_7 : decode cX9_post 7 = .ok (.bipush 12, 2) := by decide +kernel
theorem dX9_post_9 : decode cX9_post 9 = .ok (.if_icmp .lt 8, 3) := by decide +kernel
theorem dX9_post_12 : decode cX9_post 12 = .ok (.bipush (-2), 2) := by decide +kernel
theorem dX9_post_14 : decode cX9_post 14 = .ok (.goto 10, 3) := by decide +kernel
theorem dX9_post_17 : decode cX9_post 17 = .ok (.aload_n 0, 1) := by decide +kernel
theorem dX9_post_18 : decode cX9_post 18 = .ok (.getfield 12, 3) := by decide +kernel
theorem dX9_post_21 : decode cX9_post 21 = .ok (.invokevirtual 80, 3) := by decide +kernel
theorem dX9_post_24 : decode cX9_post 24 = .ok (.ireturn, 1) := by decide +kernel
theorem dX9_road_0 : decode cX9_road 0 = .ok (.aload_n 0, 1) := by decide +kernel
theorem dX9_road_1 : decode cX9_road 1 = .ok (.getfield 12, 3) := by decide +kernel
theorem dX9_road_4 : decode cX9_road 4 = .ok (.iload_n 1, 1) := by decide +kernel
theorem dX9_road_5 : decode cX9_road 5 = .ok (.invokevirtual 84, 3) := by decide +kernel
theorem dX9_road_8 : decode cX9_road 8 = .ok (.ifCond .eq 29, 3) := by decide +kernel
theorem dX9_road_11 : decode cX9_road 11 = .ok (.aload_n 0, 1) := by decide +kernel
theorem dX9_road_12 : decode cX9_road 12 = .ok (.getfield 12, 3) := by decide +kernel
theorem dX9_road_15 : decode cX9_road 15 = .ok (.iload_n 2, 1) := by decide +kernel
theorem dX9_road_16 : decode cX9_road 16 = .ok (.invokevirtual 84, 3) := by decide +kernel
theorem dX9_road_19 : decode cX9_road 19 = .ok (.ifCond .eq 18, 3) := by decide +kernel
theorem dX9_road_22 : decode cX9_road 22 = .ok (.iload_n 1, 1) := by decide +kernel
theorem dX9_road_23 : decode cX9_road 23 = .ok (.iload_n 2, 1) := by decide +kernel
theorem dX9_road_24 : decode cX9_road 24 = .ok (.if_icmp .eq 13, 3) := by decide +kernel
theorem dX9_road_27 : decode cX9_road 27 = .ok (.iload_n 3, 1) := by decide +kernel
theorem dX9_road_28 : decode cX9_road 28 = .ok (.ifCond .lt 9, 3) := by decide +kernel
theorem dX9_road_31 : decode cX9_road 31 = .ok (.iload_n 3, 1) := by decide +kernel
theorem dX9_road_32 : decode cX9_road 32 = .ok (.bipush 9, 2) := by decide +kernel
theorem dX9_road_34 : decode cX9_road 34 = .ok (.if_icmp .le 6, 3) := by decide +kernel
theorem dX9_road_37 : decode cX9_road 37 = .ok (.bipush (-2), 2) := by decide +kernel
theorem dX9_road_39 : decode cX9_road 39 = .ok (.ireturn, 1) := by decide +kernel
theorem dX9_road_40 : decode cX9_road 40 = .ok (.aload_n 0, 1) := by decide +kernel
theorem dX9_road_41 : decode cX9_road 41 = .ok (.getfield 12, 3) := by decide +kernel
theorem dX9_road_44 : decode cX9_road 44 = .ok (.iload_n 1, 1) := by decide +kernel
theorem dX9_road_45 : decode cX9_road 45 = .ok (.iload_n 2, 1) := by decide +kernel
theorem dX9_road_46 : decode cX9_road 46 = .ok (.iload_n 3, 1) := by decide +kernel
theorem dX9_road_47 : decode cX9_road 47 = .ok (.invokevirtual 88, 3) := by decide +kernel
theorem dX9_road_50 : decode cX9_road 50 = .ok (.ireturn, 1) := by decide +kernel
theorem dX9_bar_0 : decode cX9_bar 0 = .ok (.aload_n 0, 1) := by decide +kernel
theorem dX9_bar_1 : decode cX9_bar 1 = .ok (.getfield 12, 3) := by decide +kernel
theorem dX9_bar_4 : decode cX9_bar 4 = .ok (.iload_n 1, 1) := by decide +kernel
theorem dX9_bar_5 : decode cX9_bar 5 = .ok (.invokevirtual 84, 3) := by decide +kernel
theorem dX9_bar_8 : decode cX9_bar 8 = .ok (.ifCond .eq 13, 3) := by decide +kernel
theorem dX9_bar_11 : decode cX9_bar 11 = .ok (.iload_n 2, 1) := by decide +kernel
theorem dX9_bar_12 : decode cX9_bar 12 = .ok (.ifCond .lt 9, 3) := by decide +kernel
theorem dX9_bar_15 : decode cX9_bar 15 = .ok (.iload_n 2, 1) := by decide +kernel
theorem dX9_bar_16 : decode cX9_bar 16 = .ok (.bipush 99, 2) := by decide +kernel
theorem dX9_bar_18 : decode cX9_bar 18 = .ok (.if_icmp .le 6, 3) := by decide +kernel
theorem dX9_bar_21 : decode cX9_bar 21 = .ok (.bipush (-2), 2) := by decide +kernel
theorem dX9_bar_23 : decode cX9_bar 23 = .ok (.ireturn, 1) := by decide +kernel
theorem dX9_bar_24 : decode cX9_bar 24 = .ok (.aload_n 0, 1) := by decide +kernel
theorem dX9_bar_25 : decode cX9_bar 25 = .ok (.getfield 12, 3) := by decide +kernel
theorem dX9_bar_28 : decode cX9_bar 28 = .ok (.iload_n 1, 1) := by decide +kernel
theorem dX9_bar_29 : decode cX9_bar 29 = .ok (.iload_n 2, 1) := by decide +kernel
theorem dX9_bar_30 : decode cX9_bar 30 = .ok (.invokevirtual 92, 3) := by decide +kernel
theorem dX9_bar_33 : decode cX9_bar 33 = .ok (.ireturn, 1) := by decide +kernel
theorem dX9_price_0 : decode cX9_price 0 = .ok (.aload_n 0, 1) := by decide +kernel
theorem dX9_price_1 : decode cX9_price 1 = .ok (.getfield 12, 3) := by decide +kernel
theorem dX9_price_4 : decode cX9_price 4 = .ok (.iload_n 1, 1) := by decide +kernel
theorem dX9_price_5 : decode cX9_price 5 = .ok (.invokevirtual 84, 3) := by decide +kernel
theorem dX9_price_8 : decode cX9_price 8 = .ok (.ifCond .eq 14, 3) := by decide +kernel
theorem dX9_price_11 : decode cX9_price 11 = .ok (.iload_n 2, 1) := by decide +kernel
theorem dX9_price_12 : decode cX9_price 12 = .ok (.ifCond .lt 10, 3) := by decide +kernel
theorem dX9_price_15 : decode cX9_price 15 = .ok (.iload_n 2, 1) := by decide +kernel
theorem dX9_price_16 : decode cX9_price 16 = .ok (.sipush 1000, 3) := by decide +kernel
theorem dX9_price_19 : decode cX9_price 19 = .ok (.if_icmp .le 6, 3) := by decide +kernel
theorem dX9_price_22 : decode cX9_price 22 = .ok (.bipush (-2), 2) := by decide +kernel
theorem dX9_price_24 : decode cX9_price 24 = .ok (.ireturn, 1) := by decide +kernel
theorem dX9_price_25 : decode cX9_price 25 = .ok (.aload_n 0, 1) := by decide +kernel
theorem dX9_price_26 : decode cX9_price 26 = .ok (.getfield 12, 3) := by decide +kernel
theorem dX9_price_29 : decode cX9_price 29 = .ok (.iload_n 1, 1) := by decide +kernel
theorem dX9_price_30 : decode cX9_price 30 = .ok (.iload_n 2, 1) := by decide +kernel
theorem dX9_price_31 : decode cX9_price 31 = .ok (.invokevirtual 96, 3) := by decide +kernel
theorem dX9_price_34 : decode cX9_price 34 = .ok (.ireturn, 1) := by decide +kernel
theorem dX9_of_0 : decode cX9_of 0 = .ok (.aload_n 0, 1) := by decide +kernel
theorem dX9_of_1 : decode cX9_of 1 = .ok (.getfield 12, 3) := by decide +kernel
theorem dX9_of_4 : decode cX9_of 4 = .ok (.iload_n 1, 1) := by decide +kernel
theorem dX9_of_5 : decode cX9_of 5 = .ok (.invokevirtual 84, 3) := by decide +kernel
theorem dX9_of_8 : decode cX9_of 8 = .ok (.ifCond .ne 6, 3) := by decide +kernel
theorem dX9_of_11 : decode cX9_of 11 = .ok (.bipush (-2), 2) := by decide +kernel
theorem dX9_of_13 : decode cX9_of 13 = .ok (.ireturn, 1) := by decide +kernel
theorem dX9_of_14 : decode cX9_of 14 = .ok (.iload_n 2, 1) := by decide +kernel
theorem dX9_of_15 : decode cX9_of 15 = .ok (.tableswitch 69 0 3 #[29, 39, 49, 59], 29) := by decide +kernel
theorem dX9_of_44 : decode cX9_of 44 = .ok (.aload_n 0, 1) := by decide +kernel
theorem dX9_of_45 : decode cX9_of 45 = .ok (.getfield 12, 3) := by decide +kernel
theorem dX9_of_48 : decode cX9_of 48 = .ok (.getfield 99, 3) := by decide +kernel
theorem dX9_of_51 : decode cX9_of 51 = .ok (.iload_n 1, 1) := by decide +kernel
theorem dX9_of_52 : decode cX9_of 52 = .ok (.iaload, 1) := by decide +kernel
theorem dX9_of_53 : decode cX9_of 53 = .ok (.ireturn, 1) := by decide +kernel
theorem dX9_of_54 : decode cX9_of 54 = .ok (.aload_n 0, 1) := by decide +kernel
theorem dX9_of_55 : decode cX9_of 55 = .ok (.getfield 12, 3) := by decide +kernel
theorem dX9_of_58 : decode cX9_of 58 = .ok (.getfield 103, 3) := by decide +kernel
theorem dX9_of_61 : decode cX9_of 61 = .ok (.iload_n 1, 1) := by decide +kernel
theorem dX9_of_62 : decode cX9_of 62 = .ok (.iaload, 1) := by decide +kernel
theorem dX9_of_63 : decode cX9_of 63 = .ok (.ireturn, 1) := by decide +kernel
theorem dX9_of_64 : decode cX9_of 64 = .ok (.aload_n 0, 1) := by decide +kernel
theorem dX9_of_65 : decode cX9_of 65 = .ok (.getfield 12, 3) := by decide +kernel
theorem dX9_of_68 : decode cX9_of 68 = .ok (.getfield 106, 3) := by decide +kernel
theorem dX9_of_71 : decode cX9_of 71 = .ok (.iload_n 1, 1) := by decide +kernel
theorem dX9_of_72 : decode cX9_of 72 = .ok (.iaload, 1) := by decide +kernel
theorem dX9_of_73 : decode cX9_of 73 = .ok (.ireturn, 1) := by decide +kernel
theorem dX9_of_74 : decode cX9_of 74 = .ok (.aload_n 0, 1) := by decide +kernel
theorem dX9_of_75 : decode cX9_of 75 = .ok (.getfield 12, 3) := by decide +kernel
theorem dX9_of_78 : decode cX9_of 78 = .ok (.getfield 109, 3) := by decide +kernel
theorem dX9_of_81 : decode cX9_of 81 = .ok (.iload_n 1, 1) := by decide +kernel
theorem dX9_of_82 : decode cX9_of 82 = .ok (.iaload, 1) := by decide +kernel
theorem dX9_of_83 : decode cX9_of 83 = .ok (.ireturn, 1) := by decide +kernel
theorem dX9_of_84 : decode cX9_of 84 = .ok (.bipush (-2), 2) := by decide +kernel
theorem dX9_of_86 : decode cX9_of 86 = .ok (.ireturn, 1) := by decide +kernel
theorem dX9_go_0 : decode cX9_go 0 = .ok (.iload_n 1, 1) := by decide +kernel
theorem dX9_go_1 : decode cX9_go 1 = .ok (.invokestatic 112, 3) := by decide +kernel
theorem dX9_go_4 : decode cX9_go 4 = .ok (.ifCond .eq 14, 3) := by decide +kernel
theorem dX9_go_7 : decode cX9_go 7 = .ok (.aload_n 0, 1) := by decide +kernel
theorem dX9_go_8 : decode cX9_go 8 = .ok (.getfield 12, 3) := by decide +kernel
theorem dX9_go_11 : decode cX9_go 11 = .ok (.iload_n 2, 1) := by decide +kernel
theorem dX9_go_12 : decode cX9_go 12 = .ok (.invokevirtual 115, 3) := by decide +kernel
theorem dX9_go_15 : decode cX9_go 15 = .ok (.ifCond .ne 6, 3) := by decide +kernel
theorem dX9_go_18 : decode cX9_go 18 = .ok (.bipush (-2), 2) := by decide +kernel
theorem dX9_go_20 : decode cX9_go 20 = .ok (.ireturn, 1) := by decide +kernel
theorem dX9_go_21 : decode cX9_go 21 = .ok (.aload_n 0, 1) := by decide +kernel
theorem dX9_go_22 : decode cX9_go 22 = .ok (.getfield 30, 3) := by decide +kernel
theorem dX9_go_25 : decode cX9_go 25 = .ok (.iload_n 1, 1) := by decide +kernel
theorem dX9_go_26 : decode cX9_go 26 = .ok (.iload_n 2, 1) := by decide +kernel
theorem dX9_go_27 : decode cX9_go 27 = .ok (.invokevirtual 118, 3) := by decide +kernel
theorem dX9_go_30 : decode cX9_go 30 = .ok (.aload_n 0, 1) := by decide +kernel
theorem dX9_go_31 : decode cX9_go 31 = .ok (.getfield 30, 3) := by decide +kernel
theorem dX9_go_34 : decode cX9_go 34 = .ok (.invokevirtual 122, 3) := by decide +kernel
theorem dX9_go_37 : decode cX9_go 37 = .ok (.ireturn, 1) := by decide +kernel
theorem dX9_ticks_0 : decode cX9_ticks 0 = .ok (.iload_n 1, 1) := by decide +kernel
theorem dX9_ticks_1 : decode cX9_ticks 1 = .ok (.invokestatic 112, 3) := by decide +kernel
theorem dX9_ticks_4 : decode cX9_ticks 4 = .ok (.ifCond .eq 14, 3) := by decide +kernel
theorem dX9_ticks_7 : decode cX9_ticks 7 = .ok (.aload_n 0, 1) := by decide +kernel
theorem dX9_ticks_8 : decode cX9_ticks 8 = .ok (.getfield 12, 3) := by decide +kernel
theorem dX9_ticks_11 : decode cX9_ticks 11 = .ok (.iload_n 2, 1) := by decide +kernel
theorem dX9_ticks_12 : decode cX9_ticks 12 = .ok (.invokevirtual 115, 3) := by decide +kernel
theorem dX9_ticks_15 : decode cX9_ticks 15 = .ok (.ifCond .ne 6, 3) := by decide +kernel
theorem dX9_ticks_18 : decode cX9_ticks 18 = .ok (.bipush (-2), 2) := by decide +kernel
theorem dX9_ticks_20 : decode cX9_ticks 20 = .ok (.ireturn, 1) := by decide +kernel
theorem dX9_ticks_21 : decode cX9_ticks 21 = .ok (.aload_n 0, 1) := by decide +kernel
theorem dX9_ticks_22 : decode cX9_ticks 22 = .ok (.getfield 30, 3) := by decide +kernel
theorem dX9_ticks_25 : decode cX9_ticks 25 = .ok (.iload_n 1, 1) := by decide +kernel
theorem dX9_ticks_26 : decode cX9_ticks 26 = .ok (.iload_n 2, 1) := by decide +kernel
theorem dX9_ticks_27 : decode cX9_ticks 27 = .ok (.invokevirtual 118, 3) := by decide +kernel
theorem dX9_ticks_30 : decode cX9_ticks 30 = .ok (.aload_n 0, 1) := by decide +kernel
theorem dX9_ticks_31 : decode cX9_ticks 31 = .ok (.getfield 30, 3) := by decide +kernel
theorem dX9_ticks_34 : decode cX9_ticks 34 = .ok (.getfield 125, 3) := by decide +kernel
theorem dX9_ticks_37 : decode cX9_ticks 37 = .ok (.ireturn, 1) := by decide +kernel
theorem dX9_when_0 : decode cX9_when 0 = .ok (.iload_n 1, 1) := by decide +kernel
theorem dX9_when_1 : decode cX9_when 1 = .ok (.invokestatic 112, 3) := by decide +kernel
theorem dX9_when_4 : decode cX9_when 4 = .ok (.ifCond .eq 25, 3) := by decide +kernel
theorem dX9_when_7 : decode cX9_when 7 = .ok (.aload_n 0, 1) := by decide +kernel
theorem dX9_when_8 : decode cX9_when 8 = .ok (.getfield 12, 3) := by decide +kernel
theorem dX9_when_11 : decode cX9_when 11 = .ok (.iload_n 2, 1) := by decide +kernel
theorem dX9_when_12 : decode cX9_when 12 = .ok (.invokevirtual 115, 3) := by decide +kernel
theorem dX9_when_15 : decode cX9_when 15 = .ok (.ifCond .eq 14, 3) := by decide +kernel
theorem dX9_when_18 : decode cX9_when 18 = .ok (.aload_n 0, 1) := by decide +kernel
theorem dX9_when_19 : decode cX9_when 19 = .ok (.getfield 12, 3) := by decide +kernel
theorem dX9_when_22 : decode cX9_when 22 = .ok (.iload_n 3, 1) := by decide +kernel
theorem dX9_when_23 : decode cX9_when 23 = .ok (.invokevirtual 84, 3) := by decide +kernel
theorem dX9_when_26 : decode cX9_when 26 = .ok (.ifCond .ne 6, 3) := by decide +kernel
theorem dX9_when_29 : decode cX9_when 29 = .ok (.bipush (-2), 2) := by decide +kernel
theorem dX9_when_31 : decode cX9_when 31 = .ok (.ireturn, 1) := by decide +kernel
theorem dX9_when_32 : decode cX9_when 32 = .ok (.aload_n 0, 1) := by decide +kernel
theorem dX9_when_33 : decode cX9_when 33 = .ok (.getfield 30, 3) := by decide +kernel
theorem dX9_when_36 : decode cX9_when 36 = .ok (.iload_n 1, 1) := by decide +kernel
theorem dX9_when_37 : decode cX9_when 37 = .ok (.iload_n 2, 1) := by decide +kernel
theorem dX9_when_38 : decode cX9_when 38 = .ok (.invokevirtual 118, 3) := by decide +kernel
theorem dX9_when_41 : decode cX9_when 41 = .ok (.aload_n 0, 1) := by decide +kernel
theorem dX9_when_42 : decode cX9_when 42 = .ok (.getfield 30, 3) := by decide +kernel
theorem dX9_when_45 : decode cX9_when 45 = .ok (.iload_n 3, 1) := by decide +kernel
theorem dX9_when_46 : decode cX9_when 46 = .ok (.invokevirtual 128, 3) := by decide +kernel
theorem dX9_when_49 : decode cX9_when 49 = .ok (.ireturn, 1) := by decide +kernel
theorem dX9_brought_0 : decode cX9_brought 0 = .ok (.iload_n 1, 1) := by decide +kernel
theorem dX9_brought_1 : decode cX9_brought 1 = .ok (.invokestatic 112, 3) := by decide +kernel
theorem dX9_brought_4 : decode cX9_brought 4 = .ok (.ifCond .eq 25, 3) := by decide +kernel
theorem dX9_brought_7 : decode cX9_brought 7 = .ok (.aload_n 0, 1) := by decide +kernel
theorem dX9_brought_8 : decode cX9_brought 8 = .ok (.getfield 12, 3) := by decide +kernel
theorem dX9_brought_11 : decode cX9_brought 11 = .ok (.iload_n 2, 1) := by decide +kernel
theorem dX9_brought_12 : decode cX9_brought 12 = .ok (.invokevirtual 115, 3) := by decide +kernel
theorem dX9_brought_15 : decode cX9_brought 15 = .ok (.ifCond .eq 14, 3) := by decide +kernel
theorem dX9_brought_18 : decode cX9_brought 18 = .ok (.aload_n 0, 1) := by decide +kernel
theorem dX9_brought_19 : decode cX9_brought 19 = .ok (.getfield 12, 3) := by decide +kernel
theorem dX9_brought_22 : decode cX9_brought 22 = .ok (.iload_n 3, 1) := by decide +kernel
theorem dX9_brought_23 : decode cX9_brought 23 = .ok (.invokevirtual 84, 3) := by decide +kernel
theorem dX9_brought_26 : decode cX9_brought 26 = .ok (.ifCond .ne 6, 3) := by decide +kernel
theorem dX9_brought_29 : decode cX9_brought 29 = .ok (.bipush (-2), 2) := by decide +kernel
theorem dX9_brought_31 : decode cX9_brought 31 = .ok (.ireturn, 1) := by decide +kernel
theorem dX9_brought_32 : decode cX9_brought 32 = .ok (.aload_n 0, 1) := by decide +kernel
theorem dX9_brought_33 : decode cX9_brought 33 = .ok (.getfield 30, 3) := by decide +kernel
theorem dX9_brought_36 : decode cX9_brought 36 = .ok (.iload_n 1, 1) := by decide +kernel
theorem dX9_brought_37 : decode cX9_brought 37 = .ok (.iload_n 2, 1) := by decide +kernel
theorem dX9_brought_38 : decode cX9_brought 38 = .ok (.invokevirtual 118, 3) := by decide +kernel
theorem dX9_brought_41 : decode cX9_brought 41 = .ok (.aload_n 0, 1) := by decide +kernel
theorem dX9_brought_42 : decode cX9_brought 42 = .ok (.getfield 30, 3) := by decide +kernel
theorem dX9_brought_45 : decode cX9_brought 45 = .ok (.iload_n 1, 1) := by decide +kernel
theorem dX9_brought_46 : decode cX9_brought 46 = .ok (.iload_n 3, 1) := by decide +kernel
theorem dX9_brought_47 : decode cX9_brought 47 = .ok (.invokevirtual 132, 3) := by decide +kernel
theorem dX9_brought_50 : decode cX9_brought 50 = .ok (.ireturn, 1) := by decide +kernel
theorem dX9_fort_0 : decode cX9_fort 0 = .ok (.iload_n 1, 1) := by decide +kernel
theorem dX9_fort_1 : decode cX9_fort 1 = .ok (.invokestatic 135, 3) := by decide +kernel
theorem dX9_fort_4 : decode cX9_fort 4 = .ok (.ifCond .eq 14, 3) := by decide +kernel
theorem dX9_fort_7 : decode cX9_fort 7 = .ok (.aload_n 0, 1) := by decide +kernel
theorem dX9_fort_8 : decode cX9_fort 8 = .ok (.getfield 12, 3) := by decide +kernel
theorem dX9_fort_11 : decode cX9_fort 11 = .ok (.iload_n 2, 1) := by decide +kernel
theorem dX9_fort_12 : decode cX9_fort 12 = .ok (.invokevirtual 115, 3) := by decide +kernel
theorem dX9_fort_15 : decode cX9_fort 15 = .ok (.ifCond .ne 6, 3) := by decide +kernel
theorem dX9_fort_18 : decode cX9_fort 18 = .ok (.bipush (-2), 2) := by decide +kernel
theorem dX9_fort_20 : decode cX9_fort 20 = .ok (.ireturn, 1) := by decide +kernel
theorem dX9_fort_21 : decode cX9_fort 21 = .ok (.aload_n 0, 1) := by decide +kernel
theorem dX9_fort_22 : decode cX9_fort 22 = .ok (.getfield 44, 3) := by decide +kernel
theorem dX9_fort_25 : decode cX9_fort 25 = .ok (.iload_n 1, 1) := by decide +kernel
theorem dX9_fort_26 : decode cX9_fort 26 = .ok (.iload_n 2, 1) := by decide +kernel
theorem dX9_fort_27 : decode cX9_fort 27 = .ok (.invokevirtual 138, 3) := by decide +kernel
theorem dX9_fort_30 : decode cX9_fort 30 = .ok (.ifCond .eq 7, 3) := by decide +kernel
theorem dX9_fort_33 : decode cX9_fort 33 = .ok (.iconst 1, 1) := by decide +kernel
theorem dX9_fort_34 : decode cX9_fort 34 = .ok (.goto 4, 3) := by decide +kernel
theorem dX9_fort_37 : decode cX9_fort 37 = .ok (.iconst 0, 1) := by decide +kernel
theorem dX9_fort_38 : decode cX9_fort 38 = .ok (.ireturn, 1) := by decide +kernel
theorem dX9_forts_0 : decode cX9_forts 0 = .ok (.iload_n 1, 1) := by decide +kernel
theorem dX9_forts_1 : decode cX9_forts 1 = .ok (.invokestatic 135, 3) := by decide +kernel
theorem dX9_forts_4 : decode cX9_forts 4 = .ok (.ifCond .eq 7, 3) := by decide +kernel
theorem dX9_forts_7 : decode cX9_forts 7 = .ok (.iload_n 2, 1) := by decide +kernel
theorem dX9_forts_8 : decode cX9_forts 8 = .ok (.ifCond .ge 6, 3) := by decide +kernel
theorem dX9_forts_11 : decode cX9_forts 11 = .ok (.bipush (-2), 2) := by decide +kernel
theorem dX9_forts_13 : decode cX9_forts 13 = .ok (.ireturn, 1) := by decide +kernel
theorem dX9_forts_14 : decode cX9_forts 14 = .ok (.aload_n 0, 1) := by decide +kernel
theorem dX9_forts_15 : decode cX9_forts 15 = .ok (.getfield 44, 3) := by decide +kernel
theorem dX9_forts_18 : decode cX9_forts 18 = .ok (.iload_n 1, 1) := by decide +kernel
theorem dX9_forts_19 : decode cX9_forts 19 = .ok (.iload_n 2, 1) := by decide +kernel
theorem dX9_forts_20 : decode cX9_forts 20 = .ok (.invokevirtual 142, 3) := by decide +kernel
theorem dX9_forts_23 : decode cX9_forts 23 = .ok (.ireturn, 1) := by decide +kernel
theorem dX9_apart_0 : decode cX9_apart 0 = .ok (.iload_n 1, 1) := by decide +kernel
theorem dX9_apart_1 : decode cX9_apart 1 = .ok (.invokestatic 135, 3) := by decide +kernel
theorem dX9_apart_4 : decode cX9_apart 4 = .ok (.ifCond .eq 14, 3) := by decide +kernel
theorem dX9_apart_7 : decode cX9_apart 7 = .ok (.aload_n 0, 1) := by decide +kernel
theorem dX9_apart_8 : decode cX9_apart 8 = .ok (.getfield 44, 3) := by decide +kernel
theorem dX9_apart_11 : decode cX9_apart 11 = .ok (.iload_n 1, 1) := by decide +kernel
theorem dX9_apart_12 : decode cX9_apart 12 = .ok (.invokevirtual 145, 3) := by decide +kernel
theorem dX9_apart_15 : decode cX9_apart 15 = .ok (.goto 5, 3) := by decide +kernel
theorem dX9_apart_18 : decode cX9_apart 18 = .ok (.bipush (-2), 2) := by decide +kernel
theorem dX9_apart_20 : decode cX9_apart 20 = .ok (.ireturn, 1) := by decide +kernel
theorem dX9_least_0 : decode cX9_least 0 = .ok (.iload_n 1, 1) := by decide +kernel
theorem dX9_least_1 : decode cX9_least 1 = .ok (.invokestatic 112, 3) := by decide +kernel
theorem dX9_least_4 : decode cX9_least 4 = .ok (.ifCond .eq 21, 3) := by decide +kernel
theorem dX9_least_7 : decode cX9_least 7 = .ok (.aload_n 0, 1) := by decide +kernel
theorem dX9_least_8 : decode cX9_least 8 = .ok (.getfield 37, 3) := by decide +kernel
theorem dX9_least_11 : decode cX9_least 11 = .ok (.aload_n 0, 1) := by decide +kernel
theorem dX9_least_12 : decode cX9_least 12 = .ok (.getfield 21, 3) := by decide +kernel
theorem dX9_least_15 : decode cX9_least 15 = .ok (.iload_n 1, 1) := by decide +kernel
theorem dX9_least_16 : decode cX9_least 16 = .ok (.invokevirtual 148, 3) := by decide +kernel
