theorem dX0_init_0 : decode cX0_init 0 = .ok (.aload_n 0, 1) := by decide +kernel
theorem dX0_init_1 : decode cX0_init 1 = .ok (.iload_n 1, 1) := by decide +kernel
theorem dX0_init_2 : decode cX0_init 2 = .ok (.iload_n 2, 1) := by decide +kernel
theorem dX0_init_3 : decode cX0_init 3 = .ok (.iload_n 3, 1) := by decide +kernel
theorem dX0_init_4 : decode cX0_init 4 = .ok (.invokespecial 1, 3) := by decide +kernel
theorem dX0_init_7 : decode cX0_init 7 = .ok (.return_, 1) := by decide +kernel
theorem dX0_kind_0 : decode cX0_kind 0 = .ok (.iconst 2, 1) := by decide +kernel
theorem dX0_kind_1 : decode cX0_kind 1 = .ok (.ireturn, 1) := by decide +kernel
theorem dX0_likesBetter_0 : decode cX0_likesBetter 0 = .ok (.iload_n 1, 1) := by decide +kernel
theorem dX0_likesBetter_1 : decode cX0_likesBetter 1 = .ok (.iload_n 2, 1) := by decide +kernel
theorem dX0_likesBetter_2 : decode cX0_likesBetter 2 = .ok (.if_icmp .ge 7, 3) := by decide +kernel
theorem dX0_likesBetter_5 : decode cX0_likesBetter 5 = .ok (.iconst 1, 1) := by decide +kernel
theorem dX0_likesBetter_6 : decode cX0_likesBetter 6 = .ok (.goto 4, 3) := by decide +kernel
theorem dX0_likesBetter_9 : decode cX0_likesBetter 9 = .ok (.iconst 0, 1) := by decide +kernel
theorem dX0_likesBetter_10 : decode cX0_likesBetter 10 = .ok (.ireturn, 1) := by decide +kernel
theorem dX1_init_0 : decode cX1_init 0 = .ok (.aload_n 0, 1) := by decide +kernel
theorem dX1_init_1 : decode cX1_init 1 = .ok (.invokespecial 3, 3) := by decide +kernel
theorem dX1_init_4 : decode cX1_init 4 = .ok (.aload_n 0, 1) := by decide +kernel
theorem dX1_init_5 : decode cX1_init 5 = .ok (.bipush 8, 2) := by decide +kernel
theorem dX1_init_7 : decode cX1_init 7 = .ok (.newarray .int, 2) := by decide +kernel
theorem dX1_init_9 : decode cX1_init 9 = .ok (.putfield 9, 3) := by decide +kernel
theorem dX1_init_12 : decode cX1_init 12 = .ok (.aload_n 0, 1) := by decide +kernel
theorem dX1_init_13 : decode cX1_init 13 = .ok (.bipush 8, 2) := by decide +kernel
theorem dX1_init_15 : decode cX1_init 15 = .ok (.newarray .int, 2) := by decide +kernel
theorem dX1_init_17 : decode cX1_init 17 = .ok (.putfield 15, 3) := by decide +kernel
theorem dX1_init_20 : decode cX1_init 20 = .ok (.aload_n 0, 1) := by decide +kernel
theorem dX1_init_21 : decode cX1_init 21 = .ok (.bipush 8, 2) := by decide +kernel
theorem dX1_init_23 : decode cX1_init 23 = .ok (.newarray .int, 2) := by decide +kernel
theorem dX1_init_25 : decode cX1_init 25 = .ok (.putfield 18, 3) := by decide +kernel
theorem dX1_init_28 : decode cX1_init 28 = .ok (.aload_n 0, 1) := by decide +kernel
theorem dX1_init_29 : decode cX1_init 29 = .ok (.bipush 8, 2) := by decide +kernel
theorem dX1_init_31 : decode cX1_init 31 = .ok (.newarray .boolean, 2) := by decide +kernel
theorem dX1_init_33 : decode cX1_init 33 = .ok (.putfield 21, 3) := by decide +kernel
theorem dX1_init_36 : decode cX1_init 36 = .ok (.aload_n 0, 1) := by decide +kernel
theorem dX1_init_37 : decode cX1_init 37 = .ok (.bipush 8, 2) := by decide +kernel
theorem dX1_init_39 : decode cX1_init 39 = .ok (.newarray .boolean, 2) := by decide +kernel
theorem dX1_init_41 : decode cX1_init 41 = .ok (.putfield 25, 3) := by decide +kernel
theorem dX1_init_44 : decode cX1_init 44 = .ok (.aload_n 0, 1) := by decide +kernel
theorem dX1_init_45 : decode cX1_init 45 = .ok (.bipush 8, 2) := by decide +kernel
theorem dX1_init_47 : decode cX1_init 47 = .ok (.newarray .int, 2) := by decide +kernel
theorem dX1_init_49 : decode cX1_init 49 = .ok (.putfield 28, 3) := by decide +kernel
theorem dX1_init_52 : decode cX1_init 52 = .ok (.aload_n 0, 1) := by decide +kernel
theorem dX1_init_53 : decode cX1_init 53 = .ok (.iconst 0, 1) := by decide +kernel
theorem dX1_init_54 : decode cX1_init 54 = .ok (.putfield 31, 3) := by decide +kernel
theorem dX1_init_57 : decode cX1_init 57 = .ok (.aload_n 0, 1) := by decide +kernel
theorem dX1_init_58 : decode cX1_init 58 = .ok (.iconst 0, 1) := by decide +kernel
theorem dX1_init_59 : decode cX1_init 59 = .ok (.putfield 35, 3) := by decide +kernel
theorem dX1_init_62 : decode cX1_init 62 = .ok (.return_, 1) := by decide +kernel
theorem dX1_takeOver_0 : decode cX1_takeOver 0 = .ok (.iconst 0, 1) := by decide +kernel
theorem dX1_takeOver_1 : decode cX1_takeOver 1 = .ok (.istore_n 2, 1) := by decide +kernel
theorem dX1_takeOver_2 : decode cX1_takeOver 2 = .ok (.iload_n 2, 1) := by decide +kernel
theorem dX1_takeOver_3 : decode cX1_takeOver 3 = .ok (.bipush 8, 2) := by decide +kernel
theorem dX1_takeOver_5 : decode cX1_takeOver 5 = .ok (.if_icmp .ge 33, 3) := by decide +kernel
theorem dX1_takeOver_8 : decode cX1_takeOver 8 = .ok (.aload_n 0, 1) := by decide +kernel
theorem dX1_takeOver_9 : decode cX1_takeOver 9 = .ok (.getfield 9, 3) := by decide +kernel
theorem dX1_takeOver_12 : decode cX1_takeOver 12 = .ok (.iload_n 2, 1) := by decide +kernel
theorem dX1_takeOver_13 : decode cX1_takeOver 13 = .ok (.aload_n 1, 1) := by decide +kernel
theorem dX1_takeOver_14 : decode cX1_takeOver 14 = .ok (.getfield 9, 3) := by decide +kernel
theorem dX1_takeOver_17 : decode cX1_takeOver 17 = .ok (.iload_n 2, 1) := by decide +kernel
theorem dX1_takeOver_18 : decode cX1_takeOver 18 = .ok (.iaload, 1) := by decide +kernel
theorem dX1_takeOver_19 : decode cX1_takeOver 19 = .ok (.iastore, 1) := by decide +kernel
theorem dX1_takeOver_20 : decode cX1_takeOver 20 = .ok (.aload_n 0, 1) := by decide +kernel
theorem dX1_takeOver_21 : decode cX1_takeOver 21 = .ok (.getfield 15, 3) := by decide +kernel
theorem dX1_takeOver_24 : decode cX1_takeOver 24 = .ok (.iload_n 2, 1) := by decide +kernel
theorem dX1_takeOver_25 : decode cX1_takeOver 25 = .ok (.aload_n 1, 1) := by decide +kernel
theorem dX1_takeOver_26 : decode cX1_takeOver 26 = .ok (.getfield 15, 3) := by decide +kernel
theorem dX1_takeOver_29 : decode cX1_takeOver 29 = .ok (.iload_n 2, 1) := by decide +kernel
theorem dX1_takeOver_30 : decode cX1_takeOver 30 = .ok (.iaload, 1) := by decide +kernel
theorem dX1_takeOver_31 : decode cX1_takeOver 31 = .ok (.iastore, 1) := by decide +kernel
theorem dX1_takeOver_32 : decode cX1_takeOver 32 = .ok (.iinc 2 1, 3) := by decide +kernel
theorem dX1_takeOver_35 : decode cX1_takeOver 35 = .ok (.goto (-33), 3) := by decide +kernel
theorem dX1_takeOver_38 : decode cX1_takeOver 38 = .ok (.iconst 0, 1) := by decide +kernel
theorem dX1_takeOver_39 : decode cX1_takeOver 39 = .ok (.istore_n 2, 1) := by decide +kernel
theorem dX1_takeOver_40 : decode cX1_takeOver 40 = .ok (.iload_n 2, 1) := by decide +kernel
theorem dX1_takeOver_41 : decode cX1_takeOver 41 = .ok (.bipush 8, 2) := by decide +kernel
theorem dX1_takeOver_43 : decode cX1_takeOver 43 = .ok (.if_icmp .ge 33, 3) := by decide +kernel
theorem dX1_takeOver_46 : decode cX1_takeOver 46 = .ok (.aload_n 0, 1) := by decide +kernel
theorem dX1_takeOver_47 : decode cX1_takeOver 47 = .ok (.getfield 18, 3) := by decide +kernel
theorem dX1_takeOver_50 : decode cX1_takeOver 50 = .ok (.iload_n 2, 1) := by decide +kernel
theorem dX1_takeOver_51 : decode cX1_takeOver 51 = .ok (.aload_n 1, 1) := by decide +kernel
theorem dX1_takeOver_52 : decode cX1_takeOver 52 = .ok (.getfield 18, 3) := by decide +kernel
theorem dX1_takeOver_55 : decode cX1_takeOver 55 = .ok (.iload_n 2, 1) := by decide +kernel
theorem dX1_takeOver_56 : decode cX1_takeOver 56 = .ok (.iaload, 1) := by decide +kernel
theorem dX1_takeOver_57 : decode cX1_takeOver 57 = .ok (.iastore, 1) := by decide +kernel
theorem dX1_takeOver_58 : decode cX1_takeOver 58 = .ok (.aload_n 0, 1) := by decide +kernel
theorem dX1_takeOver_59 : decode cX1_takeOver 59 = .ok (.getfield 21, 3) := by decide +kernel
theorem dX1_takeOver_62 : decode cX1_takeOver 62 = .ok (.iload_n 2, 1) := by decide +kernel
theorem dX1_takeOver_63 : decode cX1_takeOver 63 = .ok (.aload_n 1, 1) := by decide +kernel
theorem dX1_takeOver_64 : decode cX1_takeOver 64 = .ok (.getfield 21, 3) := by decide +kernel
theorem dX1_takeOver_67 : decode cX1_takeOver 67 = .ok (.iload_n 2, 1) := by decide +kernel
theorem dX1_takeOver_68 : decode cX1_takeOver 68 = .ok (.baload, 1) := by decide +kernel
theorem dX1_takeOver_69 : decode cX1_takeOver 69 = .ok (.bastore, 1) := by decide +kernel
theorem dX1_takeOver_70 : decode cX1_takeOver 70 = .ok (.iinc 2 1, 3) := by decide +kernel
theorem dX1_takeOver_73 : decode cX1_takeOver 73 = .ok (.goto (-33), 3) := by decide +kernel
theorem dX1_takeOver_76 : decode cX1_takeOver 76 = .ok (.iconst 0, 1) := by decide +kernel
theorem dX1_takeOver_77 : decode cX1_takeOver 77 = .ok (.istore_n 2, 1) := by decide +kernel
theorem dX1_takeOver_78 : decode cX1_takeOver 78 = .ok (.iload_n 2, 1) := by decide +kernel
theorem dX1_takeOver_79 : decode cX1_takeOver 79 = .ok (.bipush 8, 2) := by decide +kernel
theorem dX1_takeOver_81 : decode cX1_takeOver 81 = .ok (.if_icmp .ge 33, 3) := by decide +kernel
theorem dX1_takeOver_84 : decode cX1_takeOver 84 = .ok (.aload_n 0, 1) := by decide +kernel
theorem dX1_takeOver_85 : decode cX1_takeOver 85 = .ok (.getfield 25, 3) := by decide +kernel
theorem dX1_takeOver_88 : decode cX1_takeOver 88 = .ok (.iload_n 2, 1) := by decide +kernel
theorem dX1_takeOver_89 : decode cX1_takeOver 89 = .ok (.aload_n 1, 1) := by decide +kernel
theorem dX1_takeOver_90 : decode cX1_takeOver 90 = .ok (.getfield 25, 3) := by decide +kernel
theorem dX1_takeOver_93 : decode cX1_takeOver 93 = .ok (.iload_n 2, 1) := by decide +kernel
theorem dX1_takeOver_94 : decode cX1_takeOver 94 = .ok (.baload, 1) := by decide +kernel
theorem dX1_takeOver_95 : decode cX1_takeOver 95 = .ok (.bastore, 1) := by decide +kernel
theorem dX1_takeOver_96 : decode cX1_takeOver 96 = .ok (.aload_n 0, 1) := by decide +kernel
theorem dX1_takeOver_97 : decode cX1_takeOver 97 = .ok (.getfield 28, 3) := by decide +kernel
theorem dX1_takeOver_100 : decode cX1_takeOver 100 = .ok (.iload_n 2, 1) := by decide +kernel
theorem dX1_takeOver_101 : decode cX1_takeOver 101 = .ok (.aload_n 1, 1) := by decide +kernel
theorem dX1_takeOver_102 : decode cX1_takeOver 102 = .ok (.getfield 28, 3) := by decide +kernel
theorem dX1_takeOver_105 : decode cX1_takeOver 105 = .ok (.iload_n 2, 1) := by decide +kernel
theorem dX1_takeOver_106 : decode cX1_takeOver 106 = .ok (.iaload, 1) := by decide +kernel
theorem dX1_takeOver_107 : decode cX1_takeOver 107 = .ok (.iastore, 1) := by decide +kernel
theorem dX1_takeOver_108 : decode cX1_takeOver 108 = .ok (.iinc 2 1, 3) := by decide +kernel
theorem dX1_takeOver_111 : decode cX1_takeOver 111 = .ok (.goto (-33), 3) := by decide +kernel
theorem dX1_takeOver_114 : decode cX1_takeOver 114 = .ok (.aload_n 0, 1) := by decide +kernel
theorem dX1_takeOver_115 : decode cX1_takeOver 115 = .ok (.aload_n 1, 1) := by decide +kernel
theorem dX1_takeOver_116 : decode cX1_takeOver 116 = .ok (.getfield 31, 3) := by decide +kernel
theorem dX1_takeOver_119 : decode cX1_takeOver 119 = .ok (.putfield 31, 3) := by decide +kernel
theorem dX1_takeOver_122 : decode cX1_takeOver 122 = .ok (.aload_n 0, 1) := by decide +kernel
theorem dX1_takeOver_123 : decode cX1_takeOver 123 = .ok (.aload_n 1, 1) := by decide +kernel
theorem dX1_takeOver_124 : decode cX1_takeOver 124 = .ok (.getfield 35, 3) := by decide +kernel
theorem dX1_takeOver_127 : decode cX1_takeOver 127 = .ok (.putfield 35, 3) := by decide +kernel
theorem dX1_takeOver_130 : decode cX1_takeOver 130 = .ok (.return_, 1) := by decide +kernel
theorem dX1_lapseLocks_0 : decode cX1_lapseLocks 0 = .ok (.iconst 0, 1) := by decide +kernel
theorem dX1_lapseLocks_1 : decode cX1_lapseLocks 1 = .ok (.istore_n 1, 1) := by decide +kernel
theorem dX1_lapseLocks_2 : decode cX1_lapseLocks 2 = .ok (.iload_n 1, 1) := by decide +kernel
theorem dX1_lapseLocks_3 : decode cX1_lapseLocks 3 = .ok (.bipush 8, 2) := by decide +kernel
theorem dX1_lapseLocks_5 : decode cX1_lapseLocks 5 = .ok (.if_icmp .ge 27, 3) := by decide +kernel
theorem dX1_lapseLocks_8 : decode cX1_lapseLocks 8 = .ok (.aload_n 0, 1) := by decide +kernel
theorem dX1_lapseLocks_9 : decode cX1_lapseLocks 9 = .ok (.getfield 18, 3) := by decide +kernel
theorem dX1_lapseLocks_12 : decode cX1_lapseLocks 12 = .ok (.iload_n 1, 1) := by decide +kernel
theorem dX1_lapseLocks_13 : decode cX1_lapseLocks 13 = .ok (.iconst 0, 1) := by decide +kernel
theorem dX1_lapseLocks_14 : decode cX1_lapseLocks 14 = .ok (.aload_n 0, 1) := by decide +kernel
theorem dX1_lapseLocks_15 : decode cX1_lapseLocks 15 = .ok (.getfield 18, 3) := by decide +kernel
theorem dX1_lapseLocks_18 : decode cX1_lapseLocks 18 = .ok (.iload_n 1, 1) := by decide +kernel
theorem dX1_lapseLocks_19 : decode cX1_lapseLocks 19 = .ok (.iaload, 1) := by decide +kernel
theorem dX1_lapseLocks_20 : decode cX1_lapseLocks 20 = .ok (.iconst 1, 1) := by decide +kernel
theorem dX1_lapseLocks_21 : decode cX1_lapseLocks 21 = .ok (.isub, 1) := by decide +kernel
theorem dX1_lapseLocks_22 : decode cX1_lapseLocks 22 = .ok (.invokestatic 38, 3) := by decide +kernel
theorem dX1_lapseLocks_25 : decode cX1_lapseLocks 25 = .ok (.iastore, 1) := by decide +kernel
theorem dX1_lapseLocks_26 : decode cX1_lapseLocks 26 = .ok (.iinc 1 1, 3) := by decide +kernel
theorem dX1_lapseLocks_29 : decode cX1_lapseLocks 29 = .ok (.goto (-27), 3) := by decide +kernel
theorem dX1_lapseLocks_32 : decode cX1_lapseLocks 32 = .ok (.return_, 1) := by decide +kernel
theorem dX2_init_0 : decode cX2_init 0 = .ok (.aload_n 0, 1) := by decide +kernel
theorem dX2_init_1 : decode cX2_init 1 = .ok (.iload_n 1, 1) := by decide +kernel
theorem dX2_init_2 : decode cX2_init 2 = .ok (.iload_n 2, 1) := by decide +kernel
theorem dX2_init_3 : decode cX2_init 3 = .ok (.iload_n 3, 1) := by decide +kernel
theorem dX2_init_4 : decode cX2_init 4 = .ok (.invokespecial 1, 3) := by decide +kernel
theorem dX2_init_7 : decode cX2_init 7 = .ok (.return_, 1) := by decide +kernel
theorem dX2_kind_0 : decode cX2_kind 0 = .ok (.iconst 3, 1) := by decide +kernel
theorem dX2_kind_1 : decode cX2_kind 1 = .ok (.ireturn, 1) := by decide +kernel
theorem dX2_mostTaken_0 : decode cX2_mostTaken 0 = .ok (.iconst 0, 1) := by decide +kernel
theorem dX2_mostTaken_1 : decode cX2_mostTaken 1 = .ok (.ireturn, 1) := by decide +kernel
theorem dX3_init_0 : decode cX3_init 0 = .ok (.aload_n 0, 1) := by decide +kernel
theorem dX3_init_1 : decode cX3_init 1 = .ok (.iload_n 1, 1) := by decide +kernel
theorem dX3_init_2 : decode cX3_init 2 = .ok (.iload_n 2, 1) := by decide +kernel
theorem dX3_init_3 : decode cX3_init 3 = .ok (.iload_n 3, 1) := by decide +kernel
theorem dX3_init_4 : decode cX3_init 4 = .ok (.invokespecial 1, 3) := by decide +kernel
theorem dX3_init_7 : decode cX3_init 7 = .ok (.return_, 1) := by decide +kernel
theorem dX3_kind_0 : decode cX3_kind 0 = .ok (.iconst 4, 1) := by decide +kernel
theorem dX3_kind_1 : decode cX3_kind 1 = .ok (.ireturn, 1) := by decide +kernel
theorem dX3_isKeptOut_0 : decode cX3_isKeptOut 0 = .ok (.iload_n 1, 1) := by decide +kernel
theorem dX3_isKeptOut_1 : decode cX3_isKeptOut 1 = .ok (.ireturn, 1) := by decide +kernel
theorem dX4_init_0 : decode cX4_init 0 = .ok (.aload_n 0, 1) := by decide +kernel
theorem dX4_init_1 : decode cX4_init 1 = .ok (.invokespecial 1, 3) := by decide +kernel
theorem dX4_init_4 : decode cX4_init 4 = .ok (.aload_n 0, 1) := by decide +kernel
theorem dX4_init_5 : decode cX4_init 5 = .ok (.bipush 40, 2) := by decide +kernel
theorem dX4_init_7 : decode cX4_init 7 = .ok (.newarray .int, 2) := by decide +kernel
theorem dX4_init_9 : decode cX4_init 9 = .ok (.putfield 9, 3) := by decide +kernel
theorem dX4_init_12 : decode cX4_init 12 = .ok (.aload_n 0, 1) := by decide +kernel
theorem dX4_init_13 : decode cX4_init 13 = .ok (.iconst 0, 1) := by decide +kernel
theorem dX4_init_14 : decode cX4_init 14 = .ok (.putfield 13, 3) := by decide +kernel
theorem dX4_init_17 : decode cX4_init 17 = .ok (.return_, 1) := by decide +kernel
theorem dX5_init_0 : decode cX5_init 0 = .ok (.aload_n 0, 1) := by decide +kernel
theorem dX5_init_1 : decode cX5_init 1 = .ok (.invokespecial 3, 3) := by decide +kernel
theorem dX5_init_4 : decode cX5_init 4 = .ok (.aload_n 0, 1) := by decide +kernel
theorem dX5_init_5 : decode cX5_init 5 = .ok (.bipush 8, 2) := by decide +kernel
theorem dX5_init_7 : decode cX5_init 7 = .ok (.newarray .int, 2) := by decide +kernel
theorem dX5_init_9 : decode cX5_init 9 = .ok (.putfield 9, 3) := by decide +kernel
theorem dX5_init_12 : decode cX5_init 12 = .ok (.aload_n 0, 1) := by decide +kernel
theorem dX5_init_13 : decode cX5_init 13 = .ok (.bipush 8, 2) := by decide +kernel
theorem dX5_init_15 : decode cX5_init 15 = .ok (.newarray .int, 2) := by decide +kernel
theorem dX5_init_17 : decode cX5_init 17 = .ok (.putfield 15, 3) := by decide +kernel
theorem dX5_init_20 : decode cX5_init 20 = .ok (.aload_n 0, 1) := by decide +kernel
theorem dX5_init_21 : decode cX5_init 21 = .ok (.bipush 8, 2) := by decide +kernel
theorem dX5_init_23 : decode cX5_init 23 = .ok (.newarray .int, 2) := by decide +kernel
theorem dX5_init_25 : decode cX5_init 25 = .ok (.putfield 18, 3) := by decide +kernel
theorem dX5_init_28 : decode cX5_init 28 = .ok (.aload_n 0, 1) := by decide +kernel
theorem dX5_init_29 : decode cX5_init 29 = .ok (.bipush 8, 2) := by decide +kernel
theorem dX5_init_31 : decode cX5_init 31 = .ok (.newarray .int, 2) := by decide +kernel
theorem dX5_init_33 : decode cX5_init 33 = .ok (.putfield 21, 3) := by decide +kernel
theorem dX5_init_36 : decode cX5_init 36 = .ok (.aload_n 0, 1) := by decide +kernel
theorem dX5_init_37 : decode cX5_init 37 = .ok (.iconst 0, 1) := by decide +kernel
theorem dX5_init_38 : decode cX5_init 38 = .ok (.putfield 24, 3) := by decide +kernel
theorem dX5_init_41 : decode cX5_init 41 = .ok (.aload_n 0, 1) := by decide +kernel
theorem dX5_init_42 : decode cX5_init 42 = .ok (.iconst 0, 1) := by decide +kernel
theorem dX5_init_43 : decode cX5_init 43 = .ok (.putfield 28, 3) := by decide +kernel
theorem dX5_init_46 : decode cX5_init 46 = .ok (.return_, 1) := by decide +kernel
theorem dX5_readAhead_0 : decode cX5_readAhead 0 = .ok (.aload_n 0, 1) := by decide +kernel
theorem dX5_readAhead_1 : decode cX5_readAhead 1 = .ok (.iconst 0, 1) := by decide +kernel
theorem dX5_readAhead_2 : decode cX5_readAhead 2 = .ok (.putfield 24, 3) := by decide +kernel
theorem dX5_readAhead_5 : decode cX5_readAhead 5 = .ok (.aload_n 0, 1) := by decide +kernel
theorem dX5_readAhead_6 : decode cX5_readAhead 6 = .ok (.iconst 0, 1) := by decide +kernel
theorem dX5_readAhead_7 : decode cX5_readAhead 7 = .ok (.putfield 28, 3) := by decide +kernel
theorem dX5_readAhead_10 : decode cX5_readAhead 10 = .ok (.iconst 0, 1) := by decide +kernel
theorem dX5_readAhead_11 : decode cX5_readAhead 11 = .ok (.istore_n 2, 1) := by decide +kernel
theorem dX5_readAhead_12 : decode cX5_readAhead 12 = .ok (.iload_n 2, 1) := by decide +kernel
theorem dX5_readAhead_13 : decode cX5_readAhead 13 = .ok (.aload_n 1, 1) := by decide +kernel
theorem dX5_readAhead_14 : decode cX5_readAhead 14 = .ok (.getfield 31, 3) := by decide +kernel
theorem dX5_readAhead_17 : decode cX5_readAhead 17 = .ok (.if_icmp .ge 22, 3) := by decide +kernel
theorem dX5_readAhead_20 : decode cX5_readAhead 20 = .ok (.aload_n 0, 1) := by decide +kernel
theorem dX5_readAhead_21 : decode cX5_readAhead 21 = .ok (.aload_n 1, 1) := by decide +kernel
theorem dX5_readAhead_22 : decode cX5_readAhead 22 = .ok (.getfield 36, 3) := by decide +kernel
theorem dX5_readAhead_25 : decode cX5_readAhead 25 = .ok (.iload_n 2, 1) := by decide +kernel
theorem dX5_readAhead_26 : decode cX5_readAhead 26 = .ok (.iaload, 1) := by decide +kernel
theorem dX5_readAhead_27 : decode cX5_readAhead 27 = .ok (.invokevirtual 39, 3) := by decide +kernel
theorem dX5_readAhead_30 : decode cX5_readAhead 30 = .ok (.ifCond .eq 9, 3) := by decide +kernel
theorem dX5_readAhead_33 : decode cX5_readAhead 33 = .ok (.iinc 2 1, 3) := by decide +kernel
theorem dX5_readAhead_36 : decode cX5_readAhead 36 = .ok (.goto (-24), 3) := by decide +kernel
theorem dX5_readAhead_39 : decode cX5_readAhead 39 = .ok (.iload_n 2, 1) := by decide +kernel
theorem dX5_readAhead_40 : decode cX5_readAhead 40 = .ok (.ireturn, 1) := by decide +kernel
theorem dX5_isAtEnd_0 : decode cX5_isAtEnd 0 = .ok (.aload_n 0, 1) := by decide +kernel
theorem dX5_isAtEnd_1 : decode cX5_isAtEnd 1 = .ok (.getfield 28, 3) := by decide +kernel
theorem dX5_isAtEnd_4 : decode cX5_isAtEnd 4 = .ok (.iconst 4, 1) := by decide +kernel
theorem dX5_isAtEnd_5 : decode cX5_isAtEnd 5 = .ok (.if_icmp .ne 7, 3) := by decide +kernel
theorem dX5_isAtEnd_8 : decode cX5_isAtEnd 8 = .ok (.iconst 1, 1) := by decide +kernel
theorem dX5_isAtEnd_9 : decode cX5_isAtEnd 9 = .ok (.goto 4, 3) := by decide +kernel
theorem dX5_isAtEnd_12 : decode cX5_isAtEnd 12 = .ok (.iconst 0, 1) := by decide +kernel
theorem dX5_isAtEnd_13 : decode cX5_isAtEnd 13 = .ok (.ireturn, 1) := by decide +kernel
theorem dX5_takes_0 : decode cX5_takes 0 = .ok (.aload_n 0, 1) := by decide +kernel
theorem dX5_takes_1 : decode cX5_takes 1 = .ok (.getfield 28, 3) := by decide +kernel
theorem dX5_takes_4 : decode cX5_takes 4 = .ok (.tableswitch 56 0 3 #[32, 38, 44, 50], 32) := by decide +kernel
theorem dX5_takes_36 : decode cX5_takes 36 = .ok (.aload_n 0, 1) := by decide +kernel
theorem dX5_takes_37 : decode cX5_takes 37 = .ok (.iload_n 1, 1) := by decide +kernel
theorem dX5_takes_38 : decode cX5_takes 38 = .ok (.invokevirtual 43, 3) := by decide +kernel
theorem dX5_takes_41 : decode cX5_takes 41 = .ok (.ireturn, 1) := by decide +kernel
theorem dX5_takes_42 : decode cX5_takes 42 = .ok (.aload_n 0, 1) := by decide +kernel
theorem dX5_takes_43 : decode cX5_takes 43 = .ok (.iload_n 1, 1) := by decide +kernel
theorem dX5_takes_44 : decode cX5_takes 44 = .ok (.invokevirtual 46, 3) := by decide +kernel
theorem dX5_takes_47 : decode cX5_takes 47 = .ok (.ireturn, 1) := by decide +kernel
theorem dX5_takes_48 : decode cX5_takes 48 = .ok (.aload_n 0, 1) := by decide +kernel
theorem dX5_takes_49 : decode cX5_takes 49 = .ok (.iload_n 1, 1) := by decide +kernel
theorem dX5_takes_50 : decode cX5_takes 50 = .ok (.invokevirtual 49, 3) := by decide +kernel
theorem dX5_takes_53 : decode cX5_takes 53 = .ok (.ireturn, 1) := by decide +kernel
theorem dX5_takes_54 : decode cX5_takes 54 = .ok (.aload_n 0, 1) := by decide +kernel
theorem dX5_takes_55 : decode cX5_takes 55 = .ok (.iload_n 1, 1) := by decide +kernel
theorem dX5_takes_56 : decode cX5_takes 56 = .ok (.invokevirtual 52, 3) := by decide +kernel
theorem dX5_takes_59 : decode cX5_takes 59 = .ok (.ireturn, 1) := by decide +kernel
theorem dX5_takes_60 : decode cX5_takes 60 = .ok (.aload_n 0, 1) := by decide +kernel
theorem dX5_takes_61 : decode cX5_takes 61 = .ok (.iload_n 1, 1) := by decide +kernel
theorem dX5_takes_62 : decode cX5_takes 62 = .ok (.invokevirtual 55, 3) := by decide +kernel
theorem dX5_takes_65 : decode cX5_takes 65 = .ok (.ireturn, 1) := by decide +kernel
theorem dX5_takesStart_0 : decode cX5_takesStart 0 = .ok (.aload_n 0, 1) := by decide +kernel
theorem dX5_takesStart_1 : decode cX5_takesStart 1 = .ok (.getfield 24, 3) := by decide +kernel
theorem dX5_takesStart_4 : decode cX5_takesStart 4 = .ok (.bipush 8, 2) := by decide +kernel
theorem dX5_takesStart_6 : decode cX5_takesStart 6 = .ok (.if_icmp .lt 5, 3) := by decide +kernel
theorem dX5_takesStart_9 : decode cX5_takesStart 9 = .ok (.iconst 0, 1) := by decide +kernel
theorem dX5_takesStart_10 : decode cX5_takesStart 10 = .ok (.ireturn, 1) := by decide +kernel
theorem dX5_takesStart_11 : decode cX5_takesStart 11 = .ok (.aload_n 0, 1) := by decide +kernel
theorem dX5_takesStart_12 : decode cX5_takesStart 12 = .ok (.getfield 9, 3) := by decide +kernel
theorem dX5_takesStart_15 : decode cX5_takesStart 15 = .ok (.aload_n 0, 1) := by decide +kernel
theorem dX5_takesStart_16 : decode cX5_takesStart 16 = .ok (.getfield 24, 3) := by decide +kernel
theorem dX5_takesStart_19 : decode cX5_takesStart 19 = .ok (.iload_n 1, 1) := by decide +kernel
theorem dX5_takesStart_20 : decode cX5_takesStart 20 = .ok (.invokestatic 58, 3) := by decide +kernel
theorem dX5_takesStart_23 : decode cX5_takesStart 23 = .ok (.iastore, 1) := by decide +kernel
theorem dX5_takesStart_24 : decode cX5_takesStart 24 = .ok (.aload_n 0, 1) := by decide +kernel
theorem dX5_takesStart_25 : decode cX5_takesStart 25 = .ok (.getfield 9, 3) := by decide +kernel
theorem dX5_takesStart_28 : decode cX5_takesStart 28 = .ok (.aload_n 0, 1) := by decide +kernel
theorem dX5_takesStart_29 : decode cX5_takesStart 29 = .ok (.getfield 24, 3) := by decide +kernel
theorem dX5_takesStart_32 : decode cX5_takesStart 32 = .ok (.iaload, 1) := by decide +kernel
theorem dX5_takesStart_33 : decode cX5_takesStart 33 = .ok (.ifCond .ne 9, 3) := by decide +kernel
theorem dX5_takesStart_36 : decode cX5_takesStart 36 = .ok (.aload_n 0, 1) := by decide +kernel
theorem dX5_takesStart_37 : decode cX5_takesStart 37 = .ok (.iload_n 1, 1) := by decide +kernel
theorem dX5_takesStart_38 : decode cX5_takesStart 38 = .ok (.invokevirtual 46, 3) := by decide +kernel
theorem dX5_takesStart_41 : decode cX5_takesStart 41 = .ok (.ireturn, 1) := by decide +kernel
theorem dX5_takesStart_42 : decode cX5_takesStart 42 = .ok (.aload_n 0, 1) := by decide +kernel
theorem dX5_takesStart_43 : decode cX5_takesStart 43 = .ok (.iconst 1, 1) := by decide +kernel
theorem dX5_takesStart_44 : decode cX5_takesStart 44 = .ok (.putfield 28, 3) := by decide +kernel
theorem dX5_takesStart_47 : decode cX5_takesStart 47 = .ok (.iconst 1, 1) := by decide +kernel
theorem dX5_takesStart_48 : decode cX5_takesStart 48 = .ok (.ireturn, 1) := by decide +kernel
theorem dX5_takesPayer_0 : decode cX5_takesPayer 0 = .ok (.iload_n 1, 1) := by decide +kernel
theorem dX5_takesPayer_1 : decode cX5_takesPayer 1 = .ok (.bipush 48, 2) := by decide +kernel
theorem dX5_takesPayer_3 : decode cX5_takesPayer 3 = .ok (.isub, 1) := by decide +kernel
theorem dX5_takesPayer_4 : decode cX5_takesPayer 4 = .ok (.invokestatic 62, 3) := by decide +kernel
theorem dX5_takesPayer_7 : decode cX5_takesPayer 7 = .ok (.ifCond .ne 5, 3) := by decide +kernel
theorem dX5_takesPayer_10 : decode cX5_takesPayer 10 = .ok (.iconst 0, 1) := by decide +kernel
theorem dX5_takesPayer_11 : decode cX5_takesPayer 11 = .ok (.ireturn, 1) := by decide +kernel
theorem dX5_takesPayer_12 : decode cX5_takesPayer 12 = .ok (.aload_n 0, 1) := by decide +kernel
theorem dX5_takesPayer_13 : decode cX5_takesPayer 13 = .ok (.getfield 15, 3) := by decide +kernel
theorem dX5_takesPayer_16 : decode cX5_takesPayer 16 = .ok (.aload_n 0, 1) := by decide +kernel
theorem dX5_takesPayer_17 : decode cX5_takesPayer 17 = .ok (.getfield 24, 3) := by decide +kernel
theorem dX5_takesPayer_20 : decode cX5_takesPayer 20 = .ok (.iload_n 1, 1) := by decide +kernel
theorem dX5_takesPayer_21 : decode cX5_takesPayer 21 = .ok (.bipush 48, 2) := by decide +kernel
theorem dX5_takesPayer_23 : decode cX5_takesPayer 23 = .ok (.isub, 1) := by decide +kernel
theorem dX5_takesPayer_24 : decode cX5_takesPayer 24 = .ok (.iastore, 1) := by decide +kernel
theorem dX5_takesPayer_25 : decode cX5_takesPayer 25 = .ok (.aload_n 0, 1) := by decide +kernel
theorem dX5_takesPayer_26 : decode cX5_takesPayer 26 = .ok (.iconst 2, 1) := by decide +kernel
theorem dX5_takesPayer_27 : decode cX5_takesPayer 27 = .ok (.putfield 28, 3) := by decide +kernel
theorem dX5_takesPayer_30 : decode cX5_takesPayer 30 = .ok (.iconst 1, 1) := by decide +kernel
theorem dX5_takesPayer_31 : decode cX5_takesPayer 31 = .ok (.ireturn, 1) := by decide +kernel
theorem dX5_takesRobbed_0 : decode cX5_takesRobbed 0 = .ok (.iload_n 1, 1) := by decide +kernel
theorem dX5_takesRobbed_1 : decode cX5_takesRobbed 1 = .ok (.bipush 48, 2) := by decide +kernel
theorem dX5_takesRobbed_3 : decode cX5_takesRobbed 3 = .ok (.isub, 1) := by decide +kernel
theorem dX5_takesRobbed_4 : decode cX5_takesRobbed 4 = .ok (.invokestatic 62, 3) := by decide +kernel
theorem dX5_takesRobbed_7 : decode cX5_takesRobbed 7 = .ok (.ifCond .eq 19, 3) := by decide +kernel
theorem dX5_takesRobbed_10 : decode cX5_takesRobbed 10 = .ok (.iload_n 1, 1) := by decide +kernel
theorem dX5_takesRobbed_11 : decode cX5_takesRobbed 11 = .ok (.bipush 48, 2) := by decide +kernel
theorem dX5_takesRobbed_13 : decode cX5_takesRobbed 13 = .ok (.isub, 1) := by decide +kernel
theorem dX5_takesRobbed_14 : decode cX5_takesRobbed 14 = .ok (.aload_n 0, 1) := by decide +kernel
theorem dX5_takesRobbed_15 : decode cX5_takesRobbed 15 = .ok (.getfield 15, 3) := by decide +kernel
theorem dX5_takesRobbed_18 : decode cX5_takesRobbed 18 = .ok (.aload_n 0, 1) := by decide +kernel
theorem dX5_takesRobbed_19 : decode cX5_takesRobbed 19 = .ok (.getfield 24, 3) := by decide +kernel
theorem dX5_takesRobbed_22 : decode cX5_takesRobbed 22 = .ok (.iaload, 1) := by decide +kernel
theorem dX5_takesRobbed_23 : decode cX5_takesRobbed 23 = .ok (.if_icmp .ne 5, 3) := by decide +kernel
theorem dX5_takesRobbed_26 : decode cX5_takesRobbed 26 = .ok (.iconst 0, 1) := by decide +kernel
theorem dX5_takesRobbed_27 : decode cX5_takesRobbed 27 = .ok (.ireturn, 1) := by decide +kernel
theorem dX5_takesRobbed_28 : decode cX5_takesRobbed 28 = .ok (.aload_n 0, 1) := by decide +kernel
theorem dX5_takesRobbed_29 : decode cX5_takesRobbed 29 = .ok (.getfield 18, 3) := by decide +kernel
theorem dX5_takesRobbed_32 : decode cX5_takesRobbed 32 = .ok (.aload_n 0, 1) := by decide +kernel
theorem dX5_takesRobbed_33 : decode cX5_takesRobbed 33 = .ok (.getfield 24, 3) := by decide +kernel
theorem dX5_takesRobbed_36 : decode cX5_takesRobbed 36 = .ok (.iload_n 1, 1) := by decide +kernel
theorem dX5_takesRobbed_37 : decode cX5_takesRobbed 37 = .ok (.bipush 48, 2) := by decide +kernel
theorem dX5_takesRobbed_39 : decode cX5_takesRobbed 39 = .ok (.isub, 1) := by decide +kernel
theorem dX5_takesRobbed_40 : decode cX5_takesRobbed 40 = .ok (.iastore, 1) := by decide +kernel
theorem dX5_takesRobbed_41 : decode cX5_takesRobbed 41 = .ok (.aload_n 0, 1) := by decide +kernel
theorem dX5_takesRobbed_42 : decode cX5_takesRobbed 42 = .ok (.iconst 3, 1) := by decide +kernel
theorem dX5_takesRobbed_43 : decode cX5_takesRobbed 43 = .ok (.putfield 28, 3) := by decide +kernel
theorem dX5_takesRobbed_46 : decode cX5_takesRobbed 46 = .ok (.iconst 1, 1) := by decide +kernel
theorem dX5_takesRobbed_47 : decode cX5_takesRobbed 47 = .ok (.ireturn, 1) := by decide +kernel
theorem dX5_takesFee_0 : decode cX5_takesFee 0 = .ok (.iload_n 1, 1) := by decide +kernel
theorem dX5_takesFee_1 : decode cX5_takesFee 1 = .ok (.bipush 48, 2) := by decide +kernel
theorem dX5_takesFee_3 : decode cX5_takesFee 3 = .ok (.if_icmp .lt 9, 3) := by decide +kernel
theorem dX5_takesFee_6 : decode cX5_takesFee 6 = .ok (.iload_n 1, 1) := by decide +kernel
theorem dX5_takesFee_7 : decode cX5_takesFee 7 = .ok (.bipush 57, 2) := by decide +kernel
theorem dX5_takesFee_9 : decode cX5_takesFee 9 = .ok (.if_icmp .le 5, 3) := by decide +kernel
theorem dX5_takesFee_12 : decode cX5_takesFee 12 = .ok (.iconst 0, 1) := by decide +kernel
theorem dX5_takesFee_13 : decode cX5_takesFee 13 = .ok (.ireturn, 1) := by decide +kernel
theorem dX5_takesFee_14 : decode cX5_takesFee 14 = .ok (.aload_n 0, 1) := by decide +kernel
theorem dX5_takesFee_15 : decode cX5_takesFee 15 = .ok (.getfield 21, 3) := by decide +kernel
theorem dX5_takesFee_18 : decode cX5_takesFee 18 = .ok (.aload_n 0, 1) := by decide +kernel
theorem dX5_takesFee_19 : decode cX5_takesFee 19 = .ok (.getfield 24, 3) := by decide +kernel
theorem dX5_takesFee_22 : decode cX5_takesFee 22 = .ok (.iload_n 1, 1) := by decide +kernel
theorem dX5_takesFee_23 : decode cX5_takesFee 23 = .ok (.bipush 48, 2) := by decide +kernel
theorem dX5_takesFee_25 : decode cX5_takesFee 25 = .ok (.isub, 1) := by decide +kernel
theorem dX5_takesFee_26 : decode cX5_takesFee 26 = .ok (.iastore, 1) := by decide +kernel
theorem dX5_takesFee_27 : decode cX5_takesFee 27 = .ok (.aload_n 0, 1) := by decide +kernel
theorem dX5_takesFee_28 : decode cX5_takesFee 28 = .ok (.dup, 1) := by decide +kernel
theorem dX5_takesFee_29 : decode cX5_takesFee 29 = .ok (.getfield 24, 3) := by decide +kernel
theorem dX5_takesFee_32 : decode cX5_takesFee 32 = .ok (.iconst 1, 1) := by decide +kernel
theorem dX5_takesFee_33 : decode cX5_takesFee 33 = .ok (.iadd, 1) := by decide +kernel
theorem dX5_takesFee_34 : decode cX5_takesFee 34 = .ok (.putfield 24, 3) := by decide +kernel
theorem dX5_takesFee_37 : decode cX5_takesFee 37 = .ok (.aload_n 0, 1) := by decide +kernel
theorem dX5_takesFee_38 : decode cX5_takesFee 38 = .ok (.iconst 4, 1) := by decide +kernel
theorem dX5_takesFee_39 : decode cX5_takesFee 39 = .ok (.putfield 28, 3) := by decide +kernel
theorem dX5_takesFee_42 : decode cX5_takesFee 42 = .ok (.iconst 1, 1) := by decide +kernel
theorem dX5_takesFee_43 : decode cX5_takesFee 43 = .ok (.ireturn, 1) := by decide +kernel
theorem dX5_takesComma_0 : decode cX5_takesComma 0 = .ok (.iload_n 1, 1) := by decide +kernel
theorem dX5_takesComma_1 : decode cX5_takesComma 1 = .ok (.bipush 44, 2) := by decide +kernel
theorem dX5_takesComma_3 : decode cX5_takesComma 3 = .ok (.if_icmp .ne 12, 3) := by decide +kernel
theorem dX5_takesComma_6 : decode cX5_takesComma 6 = .ok (.aload_n 0, 1) := by decide +kernel
theorem dX5_takesComma_7 : decode cX5_takesComma 7 = .ok (.getfield 24, 3) := by decide +kernel
theorem dX5_takesComma_10 : decode cX5_takesComma 10 = .ok (.bipush 8, 2) := by decide +kernel
theorem dX5_takesComma_12 : decode cX5_takesComma 12 = .ok (.if_icmp .lt 5, 3) := by decide +kernel
theorem dX5_takesComma_15 : decode cX5_takesComma 15 = .ok (.iconst 0, 1) := by decide +kernel
theorem dX5_takesComma_16 : decode cX5_takesComma 16 = .ok (.ireturn, 1) := by decide +kernel
theorem dX5_takesComma_17 : decode cX5_takesComma 17 = .ok (.aload_n 0, 1) := by decide +kernel
theorem dX5_takesComma_18 : decode cX5_takesComma 18 = .ok (.iconst 0, 1) := by decide +kernel
theorem dX5_takesComma_19 : decode cX5_takesComma 19 = .ok (.putfield 28, 3) := by decide +kernel
theorem dX5_takesComma_22 : decode cX5_takesComma 22 = .ok (.iconst 1, 1) := by decide +kernel
theorem dX5_takesComma_23 : decode cX5_takesComma 23 = .ok (.ireturn, 1) := by decide +kernel
theorem dX5_kindOf_0 : decode cX5_kindOf 0 = .ok (.iload_n 0, 1) := by decide +kernel
theorem dX5_kindOf_1 : decode cX5_kindOf 1 = .ok (.lookupswitch 51 #[(98, 45), (104, 47), (109, 49), (115, 43)], 43) := by decide +kernel
theorem dX5_kindOf_44 : decode cX5_kindOf 44 = .ok (.iconst 1, 1) := by decide +kernel
theorem dX5_kindOf_45 : decode cX5_kindOf 45 = .ok (.ireturn, 1) := by decide +kernel
theorem dX5_kindOf_46 : decode cX5_kindOf 46 = .ok (.iconst 2, 1) := by decide +kernel
theorem dX5_kindOf_47 : decode cX5_kindOf 47 = .ok (.ireturn, 1) := by decide +kernel
theorem dX5_kindOf_48 : decode cX5_kindOf 48 = .ok (.iconst 3, 1) := by decide +kernel
theorem dX5_kindOf_49 : decode cX5_kindOf 49 = .ok (.ireturn, 1) := by decide +kernel
theorem dX5_kindOf_50 : decode cX5_kindOf 50 = .ok (.iconst 4, 1) := by decide +kernel
theorem dX5_kindOf_51 : decode cX5_kindOf 51 = .ok (.ireturn, 1) := by decide +kernel
theorem dX5_kindOf_52 : decode cX5_kindOf 52 = .ok (.iconst 0, 1) := by decide +kernel
theorem dX5_kindOf_53 : decode cX5_kindOf 53 = .ok (.ireturn, 1) := by decide +kernel
theorem dX6_init_0 : decode cX6_init 0 = .ok (.aload_n 0, 1) := by decide +kernel
theorem dX6_init_1 : decode cX6_init 1 = .ok (.iload_n 1, 1) := by decide +kernel
theorem dX6_init_2 : decode cX6_init 2 = .ok (.iload_n 2, 1) := by decide +kernel
theorem dX6_init_3 : decode cX6_init 3 = .ok (.iload_n 3, 1) := by decide +kernel
theorem dX6_init_4 : decode cX6_init 4 = .ok (.invokespecial 1, 3) := by decide +kernel
theorem dX6_init_7 : decode cX6_init 7 = .ok (.return_, 1) := by decide +kernel
theorem dX6_kind_0 : decode cX6_kind 0 = .ok (.iconst 1, 1) := by decide +kernel
theorem dX6_kind_1 : decode cX6_kind 1 = .ok (.ireturn, 1) := by decide +kernel
theorem dX6_mostTaken_0 : decode cX6_mostTaken 0 = .ok (.iconst 2, 1) := by decide +kernel
theorem dX6_mostTaken_1 : decode cX6_mostTaken 1 = .ok (.ireturn, 1) := by decide +kernel
theorem dX7_init_0 : decode cX7_init 0 = .ok (.aload_n 0, 1) := by decide +kernel
theorem dX7_init_1 : decode cX7_init 1 = .ok (.invokespecial 1, 3) := by decide +kernel
theorem dX7_init_4 : decode cX7_init 4 = .ok (.aload_n 0, 1) := by decide +kernel
theorem dX7_init_5 : decode cX7_init 5 = .ok (.iload_n 1, 1) := by decide +kernel
theorem dX7_init_6 : decode cX7_init 6 = .ok (.putfield 7, 3) := by decide +kernel
theorem dX7_init_9 : decode cX7_init 9 = .ok (.aload_n 0, 1) := by decide +kernel
theorem dX7_init_10 : decode cX7_init 10 = .ok (.iload_n 2, 1) := by decide +kernel
theorem dX7_init_11 : decode cX7_init 11 = .ok (.putfield 13, 3) := by decide +kernel
theorem dX7_init_14 : decode cX7_init 14 = .ok (.aload_n 0, 1) := by decide +kernel
theorem dX7_init_15 : decode cX7_init 15 = .ok (.iload_n 3, 1) := by decide +kernel
theorem dX7_init_16 : decode cX7_init 16 = .ok (.putfield 16, 3) := by decide +kernel
theorem dX7_init_19 : decode cX7_init 19 = .ok (.return_, 1) := by decide +kernel
theorem dX7_kind_0 : decode cX7_kind 0 = .ok (.iconst 0, 1) := by decide +kernel
theorem dX7_kind_1 : decode cX7_kind 1 = .ok (.ireturn, 1) := by decide +kernel
theorem dX7_robs_0 : decode cX7_robs 0 = .ok (.iload_n 1, 1) := by decide +kernel
theorem dX7_robs_1 : decode cX7_robs 1 = .ok (.ifCond .eq 10, 3) := by decide +kernel
theorem dX7_robs_4 : decode cX7_robs 4 = .ok (.aload_n 0, 1) := by decide +kernel
theorem dX7_robs_5 : decode cX7_robs 5 = .ok (.getfield 13, 3) := by decide +kernel
theorem dX7_robs_8 : decode cX7_robs 8 = .ok (.goto 7, 3) := by decide +kernel
theorem dX7_robs_11 : decode cX7_robs 11 = .ok (.aload_n 0, 1) := by decide +kernel
theorem dX7_robs_12 : decode cX7_robs 12 = .ok (.getfield 7, 3) := by decide +kernel
theorem dX7_robs_15 : decode cX7_robs 15 = .ok (.ireturn, 1) := by decide +kernel
theorem dX7_isKeptOut_0 : decode cX7_isKeptOut 0 = .ok (.iload_n 1, 1) := by decide +kernel
theorem dX7_isKeptOut_1 : decode cX7_isKeptOut 1 = .ok (.ifCond .ne 7, 3) := by decide +kernel
theorem dX7_isKeptOut_4 : decode cX7_isKeptOut 4 = .ok (.iload_n 2, 1) := by decide +kernel
theorem dX7_isKeptOut_5 : decode cX7_isKeptOut 5 = .ok (.ifCond .le 7, 3) := by decide +kernel
theorem dX7_isKeptOut_8 : decode cX7_isKeptOut 8 = .ok (.iconst 1, 1) := by decide +kernel
theorem dX7_isKeptOut_9 : decode cX7_isKeptOut 9 = .ok (.goto 4, 3) := by decide +kernel
theorem dX7_isKeptOut_12 : decode cX7_isKeptOut 12 = .ok (.iconst 0, 1) := by decide +kernel
theorem dX7_isKeptOut_13 : decode cX7_isKeptOut 13 = .ok (.ireturn, 1) := by decide +kernel
theorem dX7_mostTaken_0 : decode cX7_mostTaken 0 = .ok (.iconst 1, 1) := by decide +kernel
theorem dX7_mostTaken_1 : decode cX7_mostTaken 1 = .ok (.ireturn, 1) := by decide +kernel
theorem dX7_likesBetter_0 : decode cX7_likesBetter 0 = .ok (.iload_n 1, 1) := by decide +kernel
theorem dX7_likesBetter_1 : decode cX7_likesBetter 1 = .ok (.iload_n 2, 1) := by decide +kernel
theorem dX7_likesBetter_2 : decode cX7_likesBetter 2 = .ok (.if_icmp .le 7, 3) := by decide +kernel
theorem dX7_likesBetter_5 : decode cX7_likesBetter 5 = .ok (.iconst 1, 1) := by decide +kernel
theorem dX7_likesBetter_6 : decode cX7_likesBetter 6 = .ok (.goto 4, 3) := by decide +kernel
theorem dX7_likesBetter_9 : decode cX7_likesBetter 9 = .ok (.iconst 0, 1) := by decide +kernel
theorem dX7_likesBetter_10 : decode cX7_likesBetter 10 = .ok (.ireturn, 1) := by decide +kernel
theorem dX8_init_0 : decode cX8_init 0 = .ok (.aload_n 0, 1) := by decide +kernel
theorem dX8_init_1 : decode cX8_init 1 = .ok (.invokespecial 3, 3) := by decide +kernel
theorem dX8_init_4 : decode cX8_init 4 = .ok (.aload_n 0, 1) := by decide +kernel
theorem dX8_init_5 : decode cX8_init 5 = .ok (.new 9, 3) := by decide +kernel
theorem dX8_init_8 : decode cX8_init 8 = .ok (.dup, 1) := by decide +kernel
theorem dX8_init_9 : decode cX8_init 9 = .ok (.invokespecial 11, 3) := by decide +kernel
theorem dX8_init_12 : decode cX8_init 12 = .ok (.putfield 12, 3) := by decide +kernel
theorem dX8_init_15 : decode cX8_init 15 = .ok (.aload_n 0, 1) := by decide +kernel
theorem dX8_init_16 : decode cX8_init 16 = .ok (.new 16, 3) := by decide +kernel
theorem dX8_init_19 : decode cX8_init 19 = .ok (.dup, 1) := by decide +kernel
theorem dX8_init_20 : decode cX8_init 20 = .ok (.invokespecial 18, 3) := by decide +kernel
theorem dX8_init_23 : decode cX8_init 23 = .ok (.putfield 19, 3) := by decide +kernel
theorem dX8_init_26 : decode cX8_init 26 = .ok (.aload_n 0, 1) := by decide +kernel
theorem dX8_init_27 : decode cX8_init 27 = .ok (.bipush 8, 2) := by decide +kernel
theorem dX8_init_29 : decode cX8_init 29 = .ok (.anewarray 23, 3) := by decide +kernel
theorem dX8_init_32 : decode cX8_init 32 = .ok (.putfield 25, 3) := by decide +kernel
theorem dX8_init_35 : decode cX8_init 35 = .ok (.aload_n 0, 1) := by decide +kernel
theorem dX8_init_36 : decode cX8_init 36 = .ok (.bipush 8, 2) := by decide +kernel
theorem dX8_init_38 : decode cX8_init 38 = .ok (.newarray .int, 2) := by decide +kernel
theorem dX8_init_40 : decode cX8_init 40 = .ok (.putfield 29, 3) := by decide +kernel
theorem dX8_init_43 : decode cX8_init 43 = .ok (.aload_n 0, 1) := by decide +kernel
theorem dX8_init_44 : decode cX8_init 44 = .ok (.bipush 8, 2) := by decide +kernel
theorem dX8_init_46 : decode cX8_init 46 = .ok (.newarray .int, 2) := by decide +kernel
theorem dX8_init_48 : decode cX8_init 48 = .ok (.putfield 33, 3) := by decide +kernel
theorem dX8_init_51 : decode cX8_init 51 = .ok (.aload_n 0, 1) := by decide +kernel
theorem dX8_init_52 : decode cX8_init 52 = .ok (.new 36, 3) := by decide +kernel
theorem dX8_init_55 : decode cX8_init 55 = .ok (.dup, 1) := by decide +kernel
theorem dX8_init_56 : decode cX8_init 56 = .ok (.invokespecial 38, 3) := by decide +kernel
theorem dX8_init_59 : decode cX8_init 59 = .ok (.putfield 39, 3) := by decide +kernel
theorem dX8_init_62 : decode cX8_init 62 = .ok (.aload_n 0, 1) := by decide +kernel
theorem dX8_init_63 : decode cX8_init 63 = .ok (.new 36, 3) := by decide +kernel
theorem dX8_init_66 : decode cX8_init 66 = .ok (.dup, 1) := by decide +kernel
theorem dX8_init_67 : decode cX8_init 67 = .ok (.invokespecial 38, 3) := by decide +kernel
theorem dX8_init_70 : decode cX8_init 70 = .ok (.putfield 43, 3) := by decide +kernel
theorem dX8_init_73 : decode cX8_init 73 = .ok (.aload_n 0, 1) := by decide +kernel
theorem dX8_init_74 : decode cX8_init 74 = .ok (.new 36, 3) := by decide +kernel
theorem dX8_init_77 : decode cX8_init 77 = .ok (.dup, 1) := by decide +kernel
theorem dX8_init_78 : decode cX8_init 78 = .ok (.invokespecial 38, 3) := by decide +kernel
theorem dX8_init_81 : decode cX8_init 81 = .ok (.putfield 46, 3) := by decide +kernel
theorem dX8_init_84 : decode cX8_init 84 = .ok (.aload_n 0, 1) := by decide +kernel
theorem dX8_init_85 : decode cX8_init 85 = .ok (.bipush 8, 2) := by decide +kernel
theorem dX8_init_87 : decode cX8_init 87 = .ok (.newarray .long, 2) := by decide +kernel
theorem dX8_init_89 : decode cX8_init 89 = .ok (.putfield 49, 3) := by decide +kernel
theorem dX8_init_92 : decode cX8_init 92 = .ok (.aload_n 0, 1) := by decide +kernel
theorem dX8_init_93 : decode cX8_init 93 = .ok (.bipush 8, 2) := by decide +kernel
theorem dX8_init_95 : decode cX8_init 95 = .ok (.newarray .int, 2) := by decide +kernel
theorem dX8_init_97 : decode cX8_init 97 = .ok (.putfield 53, 3) := by decide +kernel
theorem dX8_init_100 : decode cX8_init 100 = .ok (.aload_n 0, 1) := by decide +kernel
theorem dX8_init_101 : decode cX8_init 101 = .ok (.sipush 256, 3) := by decide +kernel
theorem dX8_init_104 : decode cX8_init 104 = .ok (.newarray .int, 2) := by decide +kernel
theorem dX8_init_106 : decode cX8_init 106 = .ok (.putfield 56, 3) := by decide +kernel
theorem dX8_init_109 : decode cX8_init 109 = .ok (.aload_n 0, 1) := by decide +kernel
theorem dX8_init_110 : decode cX8_init 110 = .ok (.sipush 256, 3) := by decide +kernel
theorem dX8_init_113 : decode cX8_init 113 = .ok (.newarray .int, 2) := by decide +kernel
theorem dX8_init_115 : decode cX8_init 115 = .ok (.putfield 59, 3) := by decide +kernel
theorem dX8_init_118 : decode cX8_init 118 = .ok (.aload_n 0, 1) := by decide +kernel
theorem dX8_init_119 : decode cX8_init 119 = .ok (.iconst 0, 1) := by decide +kernel
theorem dX8_init_120 : decode cX8_init 120 = .ok (.putfield 62, 3) := by decide +kernel
theorem dX8_init_123 : decode cX8_init 123 = .ok (.aload_n 0, 1) := by decide +kernel
theorem dX8_init_124 : decode cX8_init 124 = .ok (.iconst 0, 1) := by decide +kernel
theorem dX8_init_125 : decode cX8_init 125 = .ok (.putfield 66, 3) := by decide +kernel
theorem dX8_init_128 : decode cX8_init 128 = .ok (.aload_n 0, 1) := by decide +kernel
theorem dX8_init_129 : decode cX8_init 129 = .ok (.iconst 0, 1) := by decide +kernel
theorem dX8_init_130 : decode cX8_init 130 = .ok (.putfield 69, 3) := by decide +kernel
theorem dX8_init_133 : decode cX8_init 133 = .ok (.aload_n 0, 1) := by decide +kernel
theorem dX8_init_134 : decode cX8_init 134 = .ok (.iconst 0, 1) := by decide +kernel
theorem dX8_init_135 : decode cX8_init 135 = .ok (.putfield 72, 3) := by decide +kernel
theorem dX8_init_138 : decode cX8_init 138 = .ok (.aload_n 0, 1) := by decide +kernel
theorem dX8_init_139 : decode cX8_init 139 = .ok (.iconst 0, 1) := by decide +kernel
theorem dX8_init_140 : decode cX8_init 140 = .ok (.putfield 76, 3) := by decide +kernel
theorem dX8_init_143 : decode cX8_init 143 = .ok (.aload_n 0, 1) := by decide +kernel
theorem dX8_init_144 : decode cX8_init 144 = .ok (.iconst 0, 1) := by decide +kernel
theorem dX8_init_145 : decode cX8_init 145 = .ok (.putfield 79, 3) := by decide +kernel
theorem dX8_init_148 : decode cX8_init 148 = .ok (.iconst 0, 1) := by decide +kernel
theorem dX8_init_149 : decode cX8_init 149 = .ok (.istore_n 1, 1) := by decide +kernel
theorem dX8_init_150 : decode cX8_init 150 = .ok (.iload_n 1, 1) := by decide +kernel
theorem dX8_init_151 : decode cX8_init 151 = .ok (.bipush 8, 2) := by decide +kernel
theorem dX8_init_153 : decode cX8_init 153 = .ok (.if_icmp .ge 25, 3) := by decide +kernel
theorem dX8_init_156 : decode cX8_init 156 = .ok (.aload_n 0, 1) := by decide +kernel
theorem dX8_init_157 : decode cX8_init 157 = .ok (.getfield 25, 3) := by decide +kernel
theorem dX8_init_160 : decode cX8_init 160 = .ok (.iload_n 1, 1) := by decide +kernel
theorem dX8_init_161 : decode cX8_init 161 = .ok (.new 23, 3) := by decide +kernel
theorem dX8_init_164 : decode cX8_init 164 = .ok (.dup, 1) := by decide +kernel
theorem dX8_init_165 : decode cX8_init 165 = .ok (.iconst 0, 1) := by decide +kernel
theorem dX8_init_166 : decode cX8_init 166 = .ok (.iconst 1, 1) := by decide +kernel
theorem dX8_init_167 : decode cX8_init 167 = .ok (.iconst 0, 1) := by decide +kernel
theorem dX8_init_168 : decode cX8_init 168 = .ok (.invokespecial 82, 3) := by decide +kernel
theorem dX8_init_171 : decode cX8_init 171 = .ok (.aastore, 1) := by decide +kernel
theorem dX8_init_172 : decode cX8_init 172 = .ok (.iinc 1 1, 3) := by decide +kernel
theorem dX8_init_175 : decode cX8_init 175 = .ok (.goto (-25), 3) := by decide +kernel
theorem dX8_init_178 : decode cX8_init 178 = .ok (.return_, 1) := by decide +kernel
theorem dX8_letters_0 : decode cX8_letters 0 = .ok (.lload_n 1, 1) := by decide +kernel
theorem dX8_letters_1 : decode cX8_letters 1 = .ok (.invokestatic 85, 3) := by decide +kernel
theorem dX8_letters_4 : decode cX8_letters 4 = .ok (.istore_n 3, 1) := by decide +kernel
theorem dX8_letters_5 : decode cX8_letters 5 = .ok (.iload_n 3, 1) := by decide +kernel
theorem dX8_letters_6 : decode cX8_letters 6 = .ok (.iconst (-1), 1) := by decide +kernel
theorem dX8_letters_7 : decode cX8_letters 7 = .ok (.if_icmp .ne 6, 3) := by decide +kernel
theorem dX8_letters_10 : decode cX8_letters 10 = .ok (.bipush (-102), 2) := by decide +kernel
theorem dX8_letters_12 : decode cX8_letters 12 = .ok (.ireturn, 1) := by decide +kernel
theorem dX8_letters_13 : decode cX8_letters 13 = .ok (.aload_n 0, 1) := by decide +kernel
theorem dX8_letters_14 : decode cX8_letters 14 = .ok (.getfield 12, 3) := by decide +kernel
theorem dX8_letters_17 : decode cX8_letters 17 = .ok (.getfield 89, 3) := by decide +kernel
theorem dX8_letters_20 : decode cX8_letters 20 = .ok (.iload_n 3, 1) := by decide +kernel
theorem dX8_letters_21 : decode cX8_letters 21 = .ok (.iadd, 1) := by decide +kernel
theorem dX8_letters_22 : decode cX8_letters 22 = .ok (.bipush 40, 2) := by decide +kernel
theorem dX8_letters_24 : decode cX8_letters 24 = .ok (.if_icmp .le 6, 3) := by decide +kernel
theorem dX8_letters_27 : decode cX8_letters 27 = .ok (.bipush (-104), 2) := by decide +kernel
theorem dX8_letters_29 : decode cX8_letters 29 = .ok (.ireturn, 1) := by decide +kernel
theorem dX8_letters_30 : decode cX8_letters 30 = .ok (.iconst 0, 1) := by decide +kernel
theorem dX8_letters_31 : decode cX8_letters 31 = .ok (.istore 4, 2) := by decide +kernel
theorem dX8_letters_33 : decode cX8_letters 33 = .ok (.iload 4, 2) := by decide +kernel
theorem dX8_letters_35 : decode cX8_letters 35 = .ok (.iload_n 3, 1) := by decide +kernel
theorem dX8_letters_36 : decode cX8_letters 36 = .ok (.if_icmp .ge 43, 3) := by decide +kernel
theorem dX8_letters_39 : decode cX8_letters 39 = .ok (.aload_n 0, 1) := by decide +kernel
theorem dX8_letters_40 : decode cX8_letters 40 = .ok (.getfield 12, 3) := by decide +kernel
theorem dX8_letters_43 : decode cX8_letters 43 = .ok (.getfield 92, 3) := by decide +kernel
theorem dX8_letters_46 : decode cX8_letters 46 = .ok (.aload_n 0, 1) := by decide +kernel
theorem dX8_letters_47 : decode cX8_letters 47 = .ok (.getfield 12, 3) := by decide +kernel
theorem dX8_letters_50 : decode cX8_letters 50 = .ok (.getfield 89, 3) := by decide +kernel
theorem dX8_letters_53 : decode cX8_letters 53 = .ok (.lload_n 1, 1) := by decide +kernel
theorem dX8_letters_54 : decode cX8_letters 54 = .ok (.iload 4, 2) := by decide +kernel
theorem dX8_letters_56 : decode cX8_letters 56 = .ok (.invokestatic 95, 3) := by decide +kernel
theorem dX8_letters_59 : decode cX8_letters 59 = .ok (.iastore, 1) := by decide +kernel
theorem dX8_letters_60 : decode cX8_letters 60 = .ok (.aload_n 0, 1) := by decide +kernel
theorem dX8_letters_61 : decode cX8_letters 61 = .ok (.getfield 12, 3) := by decide +kernel
theorem dX8_letters_64 : decode cX8_letters 64 = .ok (.dup, 1) := by decide +kernel
theorem dX8_letters_65 : decode cX8_letters 65 = .ok (.getfield 89, 3) := by decide +kernel
theorem dX8_letters_68 : decode cX8_letters 68 = .ok (.iconst 1, 1) := by decide +kernel
theorem dX8_letters_69 : decode cX8_letters 69 = .ok (.iadd, 1) := by decide +kernel
theorem dX8_letters_70 : decode cX8_letters 70 = .ok (.putfield 89, 3) := by decide +kernel
theorem dX8_letters_73 : decode cX8_letters 73 = .ok (.iinc 4 1, 3) := by decide +kernel
theorem dX8_letters_76 : decode cX8_letters 76 = .ok (.goto (-43), 3) := by decide +kernel
theorem dX8_letters_79 : decode cX8_letters 79 = .ok (.aload_n 0, 1) := by decide +kernel
theorem dX8_letters_80 : decode cX8_letters 80 = .ok (.getfield 12, 3) := by decide +kernel
theorem dX8_letters_83 : decode cX8_letters 83 = .ok (.getfield 89, 3) := by decide +kernel
theorem dX8_letters_86 : decode cX8_letters 86 = .ok (.ireturn, 1) := by decide +kernel
theorem dX8_blank_0 : decode cX8_blank 0 = .ok (.aload_n 0, 1) := by decide +kernel
theorem dX8_blank_1 : decode cX8_blank 1 = .ok (.getfield 12, 3) := by decide +kernel
theorem dX8_blank_4 : decode cX8_blank 4 = .ok (.getfield 89, 3) := by decide +kernel
theorem dX8_blank_7 : decode cX8_blank 7 = .ok (.istore_n 1, 1) := by decide +kernel
theorem dX8_blank_8 : decode cX8_blank 8 = .ok (.aload_n 0, 1) := by decide +kernel
theorem dX8_blank_9 : decode cX8_blank 9 = .ok (.getfield 12, 3) := by decide +kernel
theorem dX8_blank_12 : decode cX8_blank 12 = .ok (.iconst 0, 1) := by decide +kernel
theorem dX8_blank_13 : decode cX8_blank 13 = .ok (.putfield 89, 3) := by decide +kernel
theorem dX8_blank_16 : decode cX8_blank 16 = .ok (.iload_n 1, 1) := by decide +kernel
theorem dX8_blank_17 : decode cX8_blank 17 = .ok (.ireturn, 1) := by decide +kernel
theorem dX8_fault_0 : decode cX8_fault 0 = .ok (.aload_n 0, 1) := by decide +kernel
theorem dX8_fault_1 : decode cX8_fault 1 = .ok (.getfield 19, 3) := by decide +kernel
theorem dX8_fault_4 : decode cX8_fault 4 = .ok (.aload_n 0, 1) := by decide +kernel
theorem dX8_fault_5 : decode cX8_fault 5 = .ok (.getfield 12, 3) := by decide +kernel
theorem dX8_fault_8 : decode cX8_fault 8 = .ok (.invokevirtual 99, 3) := by decide +kernel
theorem dX8_fault_11 : decode cX8_fault 11 = .ok (.ireturn, 1) := by decide +kernel
theorem dX8_contracts_0 : decode cX8_contracts 0 = .ok (.aload_n 0, 1) := by decide +kernel
theorem dX8_contracts_1 : decode cX8_contracts 1 = .ok (.getfield 19, 3) := by decide +kernel
theorem dX8_contracts_4 : decode cX8_contracts 4 = .ok (.aload_n 0, 1) := by decide +kernel
theorem dX8_contracts_5 : decode cX8_contracts 5 = .ok (.getfield 12, 3) := by decide +kernel
theorem dX8_contracts_8 : decode cX8_contracts 8 = .ok (.invokevirtual 99, 3) := by decide +kernel
theorem dX8_contracts_11 : decode cX8_contracts 11 = .ok (.aload_n 0, 1) := by decide +kernel
theorem dX8_contracts_12 : decode cX8_contracts 12 = .ok (.getfield 12, 3) := by decide +kernel
theorem dX8_contracts_15 : decode cX8_contracts 15 = .ok (.getfield 89, 3) := by decide +kernel
theorem dX8_contracts_18 : decode cX8_contracts 18 = .ok (.if_icmp .lt 13, 3) := by decide +kernel
theorem dX8_contracts_21 : decode cX8_contracts 21 = .ok (.aload_n 0, 1) := by decide +kernel
theorem dX8_contracts_22 : decode cX8_contracts 22 = .ok (.getfield 19, 3) := by decide +kernel
theorem dX8_contracts_25 : decode cX8_contracts 25 = .ok (.invokevirtual 103, 3) := by decide +kernel
theorem dX8_contracts_28 : decode cX8_contracts 28 = .ok (.ifCond .ne 6, 3) := by decide +kernel
theorem dX8_contracts_31 : decode cX8_contracts 31 = .ok (.bipush (-103), 2) := by decide +kernel
theorem dX8_contracts_33 : decode cX8_contracts 33 = .ok (.ireturn, 1) := by decide +kernel
theorem dX8_contracts_34 : decode cX8_contracts 34 = .ok (.aload_n 0, 1) := by decide +kernel
theorem dX8_contracts_35 : decode cX8_contracts 35 = .ok (.aload_n 0, 1) := by decide +kernel
theorem dX8_contracts_36 : decode cX8_contracts 36 = .ok (.getfield 19, 3) := by decide +kernel
theorem dX8_contracts_39 : decode cX8_contracts 39 = .ok (.getfield 107, 3) := by decide +kernel
theorem dX8_contracts_42 : decode cX8_contracts 42 = .ok (.putfield 62, 3) := by decide +kernel
theorem dX8_contracts_45 : decode cX8_contracts 45 = .ok (.iconst 0, 1) := by decide +kernel
theorem dX8_contracts_46 : decode cX8_contracts 46 = .ok (.istore_n 1, 1) := by decide +kernel
theorem dX8_contracts_47 : decode cX8_contracts 47 = .ok (.iload_n 1, 1) := by decide +kernel
theorem dX8_contracts_48 : decode cX8_contracts 48 = .ok (.aload_n 0, 1) := by decide +kernel
theorem dX8_contracts_49 : decode cX8_contracts 49 = .ok (.getfield 62, 3) := by decide +kernel
theorem dX8_contracts_52 : decode cX8_contracts 52 = .ok (.if_icmp .ge 75, 3) := by decide +kernel
theorem dX8_contracts_55 : decode cX8_contracts 55 = .ok (.aload_n 0, 1) := by decide +kernel
theorem dX8_contracts_56 : decode cX8_contracts 56 = .ok (.getfield 25, 3) := by decide +kernel
theorem dX8_contracts_59 : decode cX8_contracts 59 = .ok (.iload_n 1, 1) := by decide +kernel
theorem dX8_contracts_60 : decode cX8_contracts 60 = .ok (.aload_n 0, 1) := by decide +kernel
theorem dX8_contracts_61 : decode cX8_contracts 61 = .ok (.getfield 19, 3) := by decide +kernel
theorem dX8_contracts_64 : decode cX8_contracts 64 = .ok (.getfield 110, 3) := by decide +kernel
theorem dX8_contracts_67 : decode cX8_contracts 67 = .ok (.iload_n 1, 1) := by decide +kernel
theorem dX8_contracts_68 : decode cX8_contracts 68 = .ok (.iaload, 1) := by decide +kernel
theorem dX8_contracts_69 : decode cX8_contracts 69 = .ok (.aload_n 0, 1) := by decide +kernel
theorem dX8_contracts_70 : decode cX8_contracts 70 = .ok (.getfield 19, 3) := by decide +kernel
theorem dX8_contracts_73 : decode cX8_contracts 73 = .ok (.getfield 113, 3) := by decide +kernel
theorem dX8_contracts_76 : decode cX8_contracts 76 = .ok (.iload_n 1, 1) := by decide +kernel
theorem dX8_contracts_77 : decode cX8_contracts 77 = .ok (.iaload, 1) := by decide +kernel
theorem dX8_contracts_78 : decode cX8_contracts 78 = .ok (.aload_n 0, 1) := by decide +kernel
theorem dX8_contracts_79 : decode cX8_contracts 79 = .ok (.getfield 19, 3) := by decide +kernel
theorem dX8_contracts_82 : decode cX8_contracts 82 = .ok (.getfield 116, 3) := by decide +kernel
theorem dX8_contracts_85 : decode cX8_contracts 85 = .ok (.iload_n 1, 1) := by decide +kernel
theorem dX8_contracts_86 : decode cX8_contracts 86 = .ok (.iaload, 1) := by decide +kernel
theorem dX8_contracts_87 : decode cX8_contracts 87 = .ok (.aload_n 0, 1) := by decide +kernel
theorem dX8_contracts_88 : decode cX8_contracts 88 = .ok (.getfield 19, 3) := by decide +kernel
theorem dX8_contracts_91 : decode cX8_contracts 91 = .ok (.getfield 119, 3) := by decide +kernel
theorem dX8_contracts_94 : decode cX8_contracts 94 = .ok (.iload_n 1, 1) := by decide +kernel
theorem dX8_contracts_95 : decode cX8_contracts 95 = .ok (.iaload, 1) := by decide +kernel
theorem dX8_contracts_96 : decode cX8_contracts 96 = .ok (.invokestatic 122, 3) := by decide +kernel
theorem dX8_contracts_99 : decode cX8_contracts 99 = .ok (.aastore, 1) := by decide +kernel
theorem dX8_contracts_100 : decode cX8_contracts 100 = .ok (.aload_n 0, 1) := by decide +kernel
theorem dX8_contracts_101 : decode cX8_contracts 101 = .ok (.getfield 39, 3) := by decide +kernel
theorem dX8_contracts_104 : decode cX8_contracts 104 = .ok (.getfield 126, 3) := by decide +kernel
theorem dX8_contracts_107 : decode cX8_contracts 107 = .ok (.iload_n 1, 1) := by decide +kernel
theorem dX8_contracts_108 : decode cX8_contracts 108 = .ok (.iconst 1, 1) := by decide +kernel
theorem dX8_contracts_109 : decode cX8_contracts 109 = .ok (.bastore, 1) := by decide +kernel
theorem dX8_contracts_110 : decode cX8_contracts 110 = .ok (.aload_n 0, 1) := by decide +kernel
theorem dX8_contracts_111 : decode cX8_contracts 111 = .ok (.getfield 39, 3) := by decide +kernel
theorem dX8_contracts_114 : decode cX8_contracts 114 = .ok (.getfield 130, 3) := by decide +kernel
theorem dX8_contracts_117 : decode cX8_contracts 117 = .ok (.iload_n 1, 1) := by decide +kernel
theorem dX8_contracts_118 : decode cX8_contracts 118 = .ok (.bipush 10, 2) := by decide +kernel
theorem dX8_contracts_120 : decode cX8_contracts 120 = .ok (.iastore, 1) := by decide +kernel
theorem dX8_contracts_121 : decode cX8_contracts 121 = .ok (.iinc 1 1, 3) := by decide +kernel
theorem dX8_contracts_124 : decode cX8_contracts 124 = .ok (.goto (-77), 3) := by decide +kernel
theorem dX8_contracts_127 : decode cX8_contracts 127 = .ok (.aload_n 0, 1) := by decide +kernel
theorem dX8_contracts_128 : decode cX8_contracts 128 = .ok (.dup, 1) := by decide +kernel
theorem dX8_contracts_129 : decode cX8_contracts 129 = .ok (.getfield 69, 3) := by decide +kernel
theorem dX8_contracts_132 : decode cX8_contracts 132 = .ok (.iconst 1, 1) := by decide +kernel
theorem dX8_contracts_133 : decode cX8_contracts 133 = .ok (.iadd, 1) := by decide +kernel
theorem dX8_contracts_134 : decode cX8_contracts 134 = .ok (.putfield 69, 3) := by decide +kernel
theorem dX8_contracts_137 : decode cX8_contracts 137 = .ok (.aload_n 0, 1) := by decide +kernel
theorem dX8_contracts_138 : decode cX8_contracts 138 = .ok (.getfield 12, 3) := by decide +kernel
theorem dX8_contracts_141 : decode cX8_contracts 141 = .ok (.iconst 0, 1) := by decide +kernel
theorem dX8_contracts_142 : decode cX8_contracts 142 = .ok (.putfield 89, 3) := by decide +kernel
theorem dX8_contracts_145 : decode cX8_contracts 145 = .ok (.aload_n 0, 1) := by decide +kernel
theorem dX8_contracts_146 : decode cX8_contracts 146 = .ok (.getfield 62, 3) := by decide +kernel
theorem dX8_contracts_149 : decode cX8_contracts 149 = .ok (.ireturn, 1) := by decide +kernel
theorem dX8_about_0 : decode cX8_about 0 = .ok (.aload_n 0, 1) := by decide +kernel
theorem dX8_about_1 : decode cX8_about 1 = .ok (.iload_n 1, 1) := by decide +kernel
theorem dX8_about_2 : decode cX8_about 2 = .ok (.invokevirtual 133, 3) := by decide +kernel
theorem dX8_about_5 : decode cX8_about 5 = .ok (.ifCond .ne 6, 3) := by decide +kernel
theorem dX8_about_8 : decode cX8_about 8 = .ok (.bipush (-101), 2) := by decide +kernel
theorem dX8_about_10 : decode cX8_about 10 = .ok (.ireturn, 1) := by decide +kernel
theorem dX8_about_11 : decode cX8_about 11 = .ok (.aload_n 0, 1) := by decide +kernel
theorem dX8_about_12 : decode cX8_about 12 = .ok (.getfield 25, 3) := by decide +kernel
theorem dX8_about_15 : decode cX8_about 15 = .ok (.iload_n 1, 1) := by decide +kernel
theorem dX8_about_16 : decode cX8_about 16 = .ok (.aaload, 1) := by decide +kernel
theorem dX8_about_17 : decode cX8_about 17 = .ok (.astore_n 3, 1) := by decide +kernel
theorem dX8_about_18 : decode cX8_about 18 = .ok (.iload_n 2, 1) := by decide +kernel
theorem dX8_about_19 : decode cX8_about 19 = .ok (.tableswitch 80 0 5 #[37, 42, 47, 52, 57, 70], 37) := by decide +kernel
theorem dX8_about_56 : decode cX8_about 56 = .ok (.aload_n 3, 1) := by decide +kernel
theorem dX8_about_57 : decode cX8_about 57 = .ok (.invokevirtual 137, 3) := by decide +kernel
theorem dX8_about_60 : decode cX8_about 60 = .ok (.ireturn, 1) := by decide +kernel
theorem dX8_about_61 : decode cX8_about 61 = .ok (.aload_n 3, 1) := by decide +kernel
theorem dX8_about_62 : decode cX8_about 62 = .ok (.getfield 141, 3) := by decide +kernel
theorem dX8_about_65 : decode cX8_about 65 = .ok (.ireturn, 1) := by decide +kernel
theorem dX8_about_66 : decode cX8_about 66 = .ok (.aload_n 3, 1) := by decide +kernel
theorem dX8_about_67 : decode cX8_about 67 = .ok (.getfield 144, 3) := by decide +kernel
theorem dX8_about_70 : decode cX8_about 70 = .ok (.ireturn, 1) := by decide +kernel
theorem dX8_about_71 : decode cX8_about 71 = .ok (.aload_n 3, 1) := by decide +kernel
theorem dX8_about_72 : decode cX8_about 72 = .ok (.getfield 146, 3) := by decide +kernel
theorem dX8_about_75 : decode cX8_about 75 = .ok (.ireturn, 1) := by decide +kernel
theorem dX8_about_76 : decode cX8_about 76 = .ok (.aload_n 0, 1) := by decide +kernel
theorem dX8_about_77 : decode cX8_about 77 = .ok (.getfield 39, 3) := by decide +kernel
theorem dX8_about_80 : decode cX8_about 80 = .ok (.getfield 126, 3) := by decide +kernel
theorem dX8_about_83 : decode cX8_about 83 = .ok (.iload_n 1, 1) := by decide +kernel
theorem dX8_about_84 : decode cX8_about 84 = .ok (.baload, 1) := by decide +kernel
theorem dX8_about_85 : decode cX8_about 85 = .ok (.invokestatic 149, 3) := by decide +kernel
theorem dX8_about_88 : decode cX8_about 88 = .ok (.ireturn, 1) := by decide +kernel
theorem dX8_about_89 : decode cX8_about 89 = .ok (.aload_n 0, 1) := by decide +kernel
theorem dX8_about_90 : decode cX8_about 90 = .ok (.getfield 39, 3) := by decide +kernel
theorem dX8_about_93 : decode cX8_about 93 = .ok (.getfield 130, 3) := by decide +kernel
theorem dX8_about_96 : decode cX8_about 96 = .ok (.iload_n 1, 1) := by decide +kernel
