theorem dX8_couldBePaidBy_35 : decode cX8_couldBePaidBy 35 = .ok (.iinc 3 1, 3) := by decide +kernel
theorem dX8_couldBePaidBy_38 : decode cX8_couldBePaidBy 38 = .ok (.goto (-34), 3) := by decide +kernel
theorem dX8_couldBePaidBy_41 : decode cX8_couldBePaidBy 41 = .ok (.iload_n 2, 1) := by decide +kernel
theorem dX8_couldBePaidBy_42 : decode cX8_couldBePaidBy 42 = .ok (.ireturn, 1) := by decide +kernel
theorem dX8_leftBy_0 : decode cX8_leftBy 0 = .ok (.aload_n 0, 1) := by decide +kernel
theorem dX8_leftBy_1 : decode cX8_leftBy 1 = .ok (.getfield 46, 3) := by decide +kernel
theorem dX8_leftBy_4 : decode cX8_leftBy 4 = .ok (.aload_n 0, 1) := by decide +kernel
theorem dX8_leftBy_5 : decode cX8_leftBy 5 = .ok (.getfield 39, 3) := by decide +kernel
theorem dX8_leftBy_8 : decode cX8_leftBy 8 = .ok (.invokevirtual 188, 3) := by decide +kernel
theorem dX8_leftBy_11 : decode cX8_leftBy 11 = .ok (.iconst 0, 1) := by decide +kernel
theorem dX8_leftBy_12 : decode cX8_leftBy 12 = .ok (.istore 4, 2) := by decide +kernel
theorem dX8_leftBy_14 : decode cX8_leftBy 14 = .ok (.iconst 0, 1) := by decide +kernel
theorem dX8_leftBy_15 : decode cX8_leftBy 15 = .ok (.istore 5, 2) := by decide +kernel
theorem dX8_leftBy_17 : decode cX8_leftBy 17 = .ok (.iload 5, 2) := by decide +kernel
theorem dX8_leftBy_19 : decode cX8_leftBy 19 = .ok (.aload_n 0, 1) := by decide +kernel
theorem dX8_leftBy_20 : decode cX8_leftBy 20 = .ok (.getfield 62, 3) := by decide +kernel
theorem dX8_leftBy_23 : decode cX8_leftBy 23 = .ok (.if_icmp .ge 80, 3) := by decide +kernel
theorem dX8_leftBy_26 : decode cX8_leftBy 26 = .ok (.aload_n 0, 1) := by decide +kernel
theorem dX8_leftBy_27 : decode cX8_leftBy 27 = .ok (.getfield 25, 3) := by decide +kernel
theorem dX8_leftBy_30 : decode cX8_leftBy 30 = .ok (.iload 5, 2) := by decide +kernel
theorem dX8_leftBy_32 : decode cX8_leftBy 32 = .ok (.aaload, 1) := by decide +kernel
theorem dX8_leftBy_33 : decode cX8_leftBy 33 = .ok (.getfield 141, 3) := by decide +kernel
theorem dX8_leftBy_36 : decode cX8_leftBy 36 = .ok (.iload_n 1, 1) := by decide +kernel
theorem dX8_leftBy_37 : decode cX8_leftBy 37 = .ok (.if_icmp .ne 60, 3) := by decide +kernel
theorem dX8_leftBy_40 : decode cX8_leftBy 40 = .ok (.aload_n 0, 1) := by decide +kernel
theorem dX8_leftBy_41 : decode cX8_leftBy 41 = .ok (.getfield 46, 3) := by decide +kernel
theorem dX8_leftBy_44 : decode cX8_leftBy 44 = .ok (.getfield 126, 3) := by decide +kernel
theorem dX8_leftBy_47 : decode cX8_leftBy 47 = .ok (.iload 5, 2) := by decide +kernel
theorem dX8_leftBy_49 : decode cX8_leftBy 49 = .ok (.iload_n 3, 1) := by decide +kernel
theorem dX8_leftBy_50 : decode cX8_leftBy 50 = .ok (.iload 5, 2) := by decide +kernel
theorem dX8_leftBy_52 : decode cX8_leftBy 52 = .ok (.ishr, 1) := by decide +kernel
theorem dX8_leftBy_53 : decode cX8_leftBy 53 = .ok (.iconst 1, 1) := by decide +kernel
theorem dX8_leftBy_54 : decode cX8_leftBy 54 = .ok (.iand, 1) := by decide +kernel
theorem dX8_leftBy_55 : decode cX8_leftBy 55 = .ok (.iconst 1, 1) := by decide +kernel
theorem dX8_leftBy_56 : decode cX8_leftBy 56 = .ok (.if_icmp .ne 7, 3) := by decide +kernel
theorem dX8_leftBy_59 : decode cX8_leftBy 59 = .ok (.iconst 1, 1) := by decide +kernel
theorem dX8_leftBy_60 : decode cX8_leftBy 60 = .ok (.goto 4, 3) := by decide +kernel
theorem dX8_leftBy_63 : decode cX8_leftBy 63 = .ok (.iconst 0, 1) := by decide +kernel
theorem dX8_leftBy_64 : decode cX8_leftBy 64 = .ok (.bastore, 1) := by decide +kernel
theorem dX8_leftBy_65 : decode cX8_leftBy 65 = .ok (.iload 4, 2) := by decide +kernel
theorem dX8_leftBy_67 : decode cX8_leftBy 67 = .ok (.aload_n 0, 1) := by decide +kernel
theorem dX8_leftBy_68 : decode cX8_leftBy 68 = .ok (.getfield 46, 3) := by decide +kernel
theorem dX8_leftBy_71 : decode cX8_leftBy 71 = .ok (.getfield 126, 3) := by decide +kernel
theorem dX8_leftBy_74 : decode cX8_leftBy 74 = .ok (.iload 5, 2) := by decide +kernel
theorem dX8_leftBy_76 : decode cX8_leftBy 76 = .ok (.baload, 1) := by decide +kernel
theorem dX8_leftBy_77 : decode cX8_leftBy 77 = .ok (.ifCond .eq 16, 3) := by decide +kernel
theorem dX8_leftBy_80 : decode cX8_leftBy 80 = .ok (.aload_n 0, 1) := by decide +kernel
theorem dX8_leftBy_81 : decode cX8_leftBy 81 = .ok (.getfield 25, 3) := by decide +kernel
theorem dX8_leftBy_84 : decode cX8_leftBy 84 = .ok (.iload 5, 2) := by decide +kernel
theorem dX8_leftBy_86 : decode cX8_leftBy 86 = .ok (.aaload, 1) := by decide +kernel
theorem dX8_leftBy_87 : decode cX8_leftBy 87 = .ok (.getfield 146, 3) := by decide +kernel
theorem dX8_leftBy_90 : decode cX8_leftBy 90 = .ok (.goto 4, 3) := by decide +kernel
theorem dX8_leftBy_93 : decode cX8_leftBy 93 = .ok (.iconst 0, 1) := by decide +kernel
theorem dX8_leftBy_94 : decode cX8_leftBy 94 = .ok (.iadd, 1) := by decide +kernel
theorem dX8_leftBy_95 : decode cX8_leftBy 95 = .ok (.istore 4, 2) := by decide +kernel
theorem dX8_leftBy_97 : decode cX8_leftBy 97 = .ok (.iinc 5 1, 3) := by decide +kernel
theorem dX8_leftBy_100 : decode cX8_leftBy 100 = .ok (.goto (-83), 3) := by decide +kernel
theorem dX8_leftBy_103 : decode cX8_leftBy 103 = .ok (.iconst 0, 1) := by decide +kernel
theorem dX8_leftBy_104 : decode cX8_leftBy 104 = .ok (.istore 5, 2) := by decide +kernel
theorem dX8_leftBy_106 : decode cX8_leftBy 106 = .ok (.iload 5, 2) := by decide +kernel
theorem dX8_leftBy_108 : decode cX8_leftBy 108 = .ok (.iload_n 2, 1) := by decide +kernel
theorem dX8_leftBy_109 : decode cX8_leftBy 109 = .ok (.if_icmp .ge 19, 3) := by decide +kernel
theorem dX8_leftBy_112 : decode cX8_leftBy 112 = .ok (.aload_n 0, 1) := by decide +kernel
theorem dX8_leftBy_113 : decode cX8_leftBy 113 = .ok (.aload_n 0, 1) := by decide +kernel
theorem dX8_leftBy_114 : decode cX8_leftBy 114 = .ok (.getfield 46, 3) := by decide +kernel
theorem dX8_leftBy_117 : decode cX8_leftBy 117 = .ok (.iconst (-1), 1) := by decide +kernel
theorem dX8_leftBy_118 : decode cX8_leftBy 118 = .ok (.invokevirtual 185, 3) := by decide +kernel
theorem dX8_leftBy_121 : decode cX8_leftBy 121 = .ok (.pop, 1) := by decide +kernel
theorem dX8_leftBy_122 : decode cX8_leftBy 122 = .ok (.iinc 5 1, 3) := by decide +kernel
theorem dX8_leftBy_125 : decode cX8_leftBy 125 = .ok (.goto (-19), 3) := by decide +kernel
theorem dX8_leftBy_128 : decode cX8_leftBy 128 = .ok (.aload_n 0, 1) := by decide +kernel
theorem dX8_leftBy_129 : decode cX8_leftBy 129 = .ok (.aload_n 0, 1) := by decide +kernel
theorem dX8_leftBy_130 : decode cX8_leftBy 130 = .ok (.getfield 46, 3) := by decide +kernel
theorem dX8_leftBy_133 : decode cX8_leftBy 133 = .ok (.iload_n 1, 1) := by decide +kernel
theorem dX8_leftBy_134 : decode cX8_leftBy 134 = .ok (.invokevirtual 175, 3) := by decide +kernel
theorem dX8_leftBy_137 : decode cX8_leftBy 137 = .ok (.iload 4, 2) := by decide +kernel
theorem dX8_leftBy_139 : decode cX8_leftBy 139 = .ok (.iload_n 2, 1) := by decide +kernel
theorem dX8_leftBy_140 : decode cX8_leftBy 140 = .ok (.imul, 1) := by decide +kernel
theorem dX8_leftBy_141 : decode cX8_leftBy 141 = .ok (.isub, 1) := by decide +kernel
theorem dX8_leftBy_142 : decode cX8_leftBy 142 = .ok (.ireturn, 1) := by decide +kernel
theorem dX8_wouldBeAsSeen_0 : decode cX8_wouldBeAsSeen 0 = .ok (.aload_n 0, 1) := by decide +kernel
theorem dX8_wouldBeAsSeen_1 : decode cX8_wouldBeAsSeen 1 = .ok (.getfield 46, 3) := by decide +kernel
theorem dX8_wouldBeAsSeen_4 : decode cX8_wouldBeAsSeen 4 = .ok (.aload_n 0, 1) := by decide +kernel
theorem dX8_wouldBeAsSeen_5 : decode cX8_wouldBeAsSeen 5 = .ok (.getfield 39, 3) := by decide +kernel
theorem dX8_wouldBeAsSeen_8 : decode cX8_wouldBeAsSeen 8 = .ok (.invokevirtual 188, 3) := by decide +kernel
theorem dX8_wouldBeAsSeen_11 : decode cX8_wouldBeAsSeen 11 = .ok (.aload_n 0, 1) := by decide +kernel
theorem dX8_wouldBeAsSeen_12 : decode cX8_wouldBeAsSeen 12 = .ok (.aload_n 0, 1) := by decide +kernel
theorem dX8_wouldBeAsSeen_13 : decode cX8_wouldBeAsSeen 13 = .ok (.getfield 46, 3) := by decide +kernel
theorem dX8_wouldBeAsSeen_16 : decode cX8_wouldBeAsSeen 16 = .ok (.iload_n 1, 1) := by decide +kernel
theorem dX8_wouldBeAsSeen_17 : decode cX8_wouldBeAsSeen 17 = .ok (.invokevirtual 185, 3) := by decide +kernel
theorem dX8_wouldBeAsSeen_20 : decode cX8_wouldBeAsSeen 20 = .ok (.pop, 1) := by decide +kernel
theorem dX8_wouldBeAsSeen_21 : decode cX8_wouldBeAsSeen 21 = .ok (.iconst 0, 1) := by decide +kernel
theorem dX8_wouldBeAsSeen_22 : decode cX8_wouldBeAsSeen 22 = .ok (.istore_n 2, 1) := by decide +kernel
theorem dX8_wouldBeAsSeen_23 : decode cX8_wouldBeAsSeen 23 = .ok (.iload_n 2, 1) := by decide +kernel
theorem dX8_wouldBeAsSeen_24 : decode cX8_wouldBeAsSeen 24 = .ok (.aload_n 0, 1) := by decide +kernel
theorem dX8_wouldBeAsSeen_25 : decode cX8_wouldBeAsSeen 25 = .ok (.getfield 66, 3) := by decide +kernel
theorem dX8_wouldBeAsSeen_28 : decode cX8_wouldBeAsSeen 28 = .ok (.if_icmp .ge 45, 3) := by decide +kernel
theorem dX8_wouldBeAsSeen_31 : decode cX8_wouldBeAsSeen 31 = .ok (.aload_n 0, 1) := by decide +kernel
theorem dX8_wouldBeAsSeen_32 : decode cX8_wouldBeAsSeen 32 = .ok (.getfield 46, 3) := by decide +kernel
theorem dX8_wouldBeAsSeen_35 : decode cX8_wouldBeAsSeen 35 = .ok (.getfield 169, 3) := by decide +kernel
theorem dX8_wouldBeAsSeen_38 : decode cX8_wouldBeAsSeen 38 = .ok (.iload_n 2, 1) := by decide +kernel
theorem dX8_wouldBeAsSeen_39 : decode cX8_wouldBeAsSeen 39 = .ok (.iaload, 1) := by decide +kernel
theorem dX8_wouldBeAsSeen_40 : decode cX8_wouldBeAsSeen 40 = .ok (.iconst (-1), 1) := by decide +kernel
theorem dX8_wouldBeAsSeen_41 : decode cX8_wouldBeAsSeen 41 = .ok (.if_icmp .eq 26, 3) := by decide +kernel
theorem dX8_wouldBeAsSeen_44 : decode cX8_wouldBeAsSeen 44 = .ok (.aload_n 0, 1) := by decide +kernel
theorem dX8_wouldBeAsSeen_45 : decode cX8_wouldBeAsSeen 45 = .ok (.getfield 46, 3) := by decide +kernel
theorem dX8_wouldBeAsSeen_48 : decode cX8_wouldBeAsSeen 48 = .ok (.getfield 169, 3) := by decide +kernel
theorem dX8_wouldBeAsSeen_51 : decode cX8_wouldBeAsSeen 51 = .ok (.iload_n 2, 1) := by decide +kernel
theorem dX8_wouldBeAsSeen_52 : decode cX8_wouldBeAsSeen 52 = .ok (.iaload, 1) := by decide +kernel
theorem dX8_wouldBeAsSeen_53 : decode cX8_wouldBeAsSeen 53 = .ok (.aload_n 0, 1) := by decide +kernel
theorem dX8_wouldBeAsSeen_54 : decode cX8_wouldBeAsSeen 54 = .ok (.getfield 46, 3) := by decide +kernel
theorem dX8_wouldBeAsSeen_57 : decode cX8_wouldBeAsSeen 57 = .ok (.getfield 166, 3) := by decide +kernel
theorem dX8_wouldBeAsSeen_60 : decode cX8_wouldBeAsSeen 60 = .ok (.iload_n 2, 1) := by decide +kernel
theorem dX8_wouldBeAsSeen_61 : decode cX8_wouldBeAsSeen 61 = .ok (.iaload, 1) := by decide +kernel
theorem dX8_wouldBeAsSeen_62 : decode cX8_wouldBeAsSeen 62 = .ok (.if_icmp .eq 5, 3) := by decide +kernel
theorem dX8_wouldBeAsSeen_65 : decode cX8_wouldBeAsSeen 65 = .ok (.iconst 0, 1) := by decide +kernel
theorem dX8_wouldBeAsSeen_66 : decode cX8_wouldBeAsSeen 66 = .ok (.ireturn, 1) := by decide +kernel
theorem dX8_wouldBeAsSeen_67 : decode cX8_wouldBeAsSeen 67 = .ok (.iinc 2 1, 3) := by decide +kernel
theorem dX8_wouldBeAsSeen_70 : decode cX8_wouldBeAsSeen 70 = .ok (.goto (-47), 3) := by decide +kernel
theorem dX8_wouldBeAsSeen_73 : decode cX8_wouldBeAsSeen 73 = .ok (.iconst 1, 1) := by decide +kernel
theorem dX8_wouldBeAsSeen_74 : decode cX8_wouldBeAsSeen 74 = .ok (.ireturn, 1) := by decide +kernel
theorem dX8_netAll_0 : decode cX8_netAll 0 = .ok (.iconst 0, 1) := by decide +kernel
theorem dX8_netAll_1 : decode cX8_netAll 1 = .ok (.istore_n 1, 1) := by decide +kernel
theorem dX8_netAll_2 : decode cX8_netAll 2 = .ok (.iload_n 1, 1) := by decide +kernel
theorem dX8_netAll_3 : decode cX8_netAll 3 = .ok (.bipush 8, 2) := by decide +kernel
theorem dX8_netAll_5 : decode cX8_netAll 5 = .ok (.if_icmp .ge 16, 3) := by decide +kernel
theorem dX8_netAll_8 : decode cX8_netAll 8 = .ok (.aload_n 0, 1) := by decide +kernel
theorem dX8_netAll_9 : decode cX8_netAll 9 = .ok (.getfield 53, 3) := by decide +kernel
theorem dX8_netAll_12 : decode cX8_netAll 12 = .ok (.iload_n 1, 1) := by decide +kernel
theorem dX8_netAll_13 : decode cX8_netAll 13 = .ok (.iconst 0, 1) := by decide +kernel
theorem dX8_netAll_14 : decode cX8_netAll 14 = .ok (.iastore, 1) := by decide +kernel
theorem dX8_netAll_15 : decode cX8_netAll 15 = .ok (.iinc 1 1, 3) := by decide +kernel
theorem dX8_netAll_18 : decode cX8_netAll 18 = .ok (.goto (-16), 3) := by decide +kernel
theorem dX8_netAll_21 : decode cX8_netAll 21 = .ok (.iconst 0, 1) := by decide +kernel
theorem dX8_netAll_22 : decode cX8_netAll 22 = .ok (.istore_n 1, 1) := by decide +kernel
theorem dX8_netAll_23 : decode cX8_netAll 23 = .ok (.iload_n 1, 1) := by decide +kernel
theorem dX8_netAll_24 : decode cX8_netAll 24 = .ok (.aload_n 0, 1) := by decide +kernel
theorem dX8_netAll_25 : decode cX8_netAll 25 = .ok (.getfield 66, 3) := by decide +kernel
theorem dX8_netAll_28 : decode cX8_netAll 28 = .ok (.if_icmp .ge 52, 3) := by decide +kernel
theorem dX8_netAll_31 : decode cX8_netAll 31 = .ok (.aload_n 0, 1) := by decide +kernel
theorem dX8_netAll_32 : decode cX8_netAll 32 = .ok (.getfield 53, 3) := by decide +kernel
theorem dX8_netAll_35 : decode cX8_netAll 35 = .ok (.aload_n 0, 1) := by decide +kernel
theorem dX8_netAll_36 : decode cX8_netAll 36 = .ok (.getfield 33, 3) := by decide +kernel
theorem dX8_netAll_39 : decode cX8_netAll 39 = .ok (.iload_n 1, 1) := by decide +kernel
theorem dX8_netAll_40 : decode cX8_netAll 40 = .ok (.iaload, 1) := by decide +kernel
theorem dX8_netAll_41 : decode cX8_netAll 41 = .ok (.dup2, 1) := by decide +kernel
theorem dX8_netAll_42 : decode cX8_netAll 42 = .ok (.iaload, 1) := by decide +kernel
theorem dX8_netAll_43 : decode cX8_netAll 43 = .ok (.aload_n 0, 1) := by decide +kernel
theorem dX8_netAll_44 : decode cX8_netAll 44 = .ok (.getfield 29, 3) := by decide +kernel
theorem dX8_netAll_47 : decode cX8_netAll 47 = .ok (.iload_n 1, 1) := by decide +kernel
theorem dX8_netAll_48 : decode cX8_netAll 48 = .ok (.iaload, 1) := by decide +kernel
theorem dX8_netAll_49 : decode cX8_netAll 49 = .ok (.iadd, 1) := by decide +kernel
theorem dX8_netAll_50 : decode cX8_netAll 50 = .ok (.iastore, 1) := by decide +kernel
theorem dX8_netAll_51 : decode cX8_netAll 51 = .ok (.aload_n 0, 1) := by decide +kernel
theorem dX8_netAll_52 : decode cX8_netAll 52 = .ok (.getfield 53, 3) := by decide +kernel
theorem dX8_netAll_55 : decode cX8_netAll 55 = .ok (.aload_n 0, 1) := by decide +kernel
theorem dX8_netAll_56 : decode cX8_netAll 56 = .ok (.getfield 39, 3) := by decide +kernel
theorem dX8_netAll_59 : decode cX8_netAll 59 = .ok (.getfield 166, 3) := by decide +kernel
theorem dX8_netAll_62 : decode cX8_netAll 62 = .ok (.iload_n 1, 1) := by decide +kernel
theorem dX8_netAll_63 : decode cX8_netAll 63 = .ok (.iaload, 1) := by decide +kernel
theorem dX8_netAll_64 : decode cX8_netAll 64 = .ok (.dup2, 1) := by decide +kernel
theorem dX8_netAll_65 : decode cX8_netAll 65 = .ok (.iaload, 1) := by decide +kernel
theorem dX8_netAll_66 : decode cX8_netAll 66 = .ok (.aload_n 0, 1) := by decide +kernel
theorem dX8_netAll_67 : decode cX8_netAll 67 = .ok (.getfield 29, 3) := by decide +kernel
theorem dX8_netAll_70 : decode cX8_netAll 70 = .ok (.iload_n 1, 1) := by decide +kernel
theorem dX8_netAll_71 : decode cX8_netAll 71 = .ok (.iaload, 1) := by decide +kernel
theorem dX8_netAll_72 : decode cX8_netAll 72 = .ok (.isub, 1) := by decide +kernel
theorem dX8_netAll_73 : decode cX8_netAll 73 = .ok (.iastore, 1) := by decide +kernel
theorem dX8_netAll_74 : decode cX8_netAll 74 = .ok (.iinc 1 1, 3) := by decide +kernel
theorem dX8_netAll_77 : decode cX8_netAll 77 = .ok (.goto (-54), 3) := by decide +kernel
theorem dX8_netAll_80 : decode cX8_netAll 80 = .ok (.return_, 1) := by decide +kernel
theorem dX8_mostGroupsWithOneLess_0 : decode cX8_mostGroupsWithOneLess 0 = .ok (.iconst 0, 1) := by decide +kernel
theorem dX8_mostGroupsWithOneLess_1 : decode cX8_mostGroupsWithOneLess 1 = .ok (.istore_n 2, 1) := by decide +kernel
theorem dX8_mostGroupsWithOneLess_2 : decode cX8_mostGroupsWithOneLess 2 = .ok (.iconst 0, 1) := by decide +kernel
theorem dX8_mostGroupsWithOneLess_3 : decode cX8_mostGroupsWithOneLess 3 = .ok (.istore_n 3, 1) := by decide +kernel
theorem dX8_mostGroupsWithOneLess_4 : decode cX8_mostGroupsWithOneLess 4 = .ok (.iload_n 3, 1) := by decide +kernel
theorem dX8_mostGroupsWithOneLess_5 : decode cX8_mostGroupsWithOneLess 5 = .ok (.bipush 8, 2) := by decide +kernel
theorem dX8_mostGroupsWithOneLess_7 : decode cX8_mostGroupsWithOneLess 7 = .ok (.if_icmp .ge 33, 3) := by decide +kernel
theorem dX8_mostGroupsWithOneLess_10 : decode cX8_mostGroupsWithOneLess 10 = .ok (.iload_n 1, 1) := by decide +kernel
theorem dX8_mostGroupsWithOneLess_11 : decode cX8_mostGroupsWithOneLess 11 = .ok (.iload_n 3, 1) := by decide +kernel
theorem dX8_mostGroupsWithOneLess_12 : decode cX8_mostGroupsWithOneLess 12 = .ok (.ishr, 1) := by decide +kernel
theorem dX8_mostGroupsWithOneLess_13 : decode cX8_mostGroupsWithOneLess 13 = .ok (.iconst 1, 1) := by decide +kernel
theorem dX8_mostGroupsWithOneLess_14 : decode cX8_mostGroupsWithOneLess 14 = .ok (.iand, 1) := by decide +kernel
theorem dX8_mostGroupsWithOneLess_15 : decode cX8_mostGroupsWithOneLess 15 = .ok (.iconst 1, 1) := by decide +kernel
theorem dX8_mostGroupsWithOneLess_16 : decode cX8_mostGroupsWithOneLess 16 = .ok (.if_icmp .ne 18, 3) := by decide +kernel
theorem dX8_mostGroupsWithOneLess_19 : decode cX8_mostGroupsWithOneLess 19 = .ok (.iload_n 2, 1) := by decide +kernel
theorem dX8_mostGroupsWithOneLess_20 : decode cX8_mostGroupsWithOneLess 20 = .ok (.aload_n 0, 1) := by decide +kernel
theorem dX8_mostGroupsWithOneLess_21 : decode cX8_mostGroupsWithOneLess 21 = .ok (.getfield 59, 3) := by decide +kernel
theorem dX8_mostGroupsWithOneLess_24 : decode cX8_mostGroupsWithOneLess 24 = .ok (.iload_n 1, 1) := by decide +kernel
theorem dX8_mostGroupsWithOneLess_25 : decode cX8_mostGroupsWithOneLess 25 = .ok (.iconst 1, 1) := by decide +kernel
theorem dX8_mostGroupsWithOneLess_26 : decode cX8_mostGroupsWithOneLess 26 = .ok (.iload_n 3, 1) := by decide +kernel
theorem dX8_mostGroupsWithOneLess_27 : decode cX8_mostGroupsWithOneLess 27 = .ok (.ishl, 1) := by decide +kernel
theorem dX8_mostGroupsWithOneLess_28 : decode cX8_mostGroupsWithOneLess 28 = .ok (.ixor, 1) := by decide +kernel
theorem dX8_mostGroupsWithOneLess_29 : decode cX8_mostGroupsWithOneLess 29 = .ok (.iaload, 1) := by decide +kernel
theorem dX8_mostGroupsWithOneLess_30 : decode cX8_mostGroupsWithOneLess 30 = .ok (.invokestatic 324, 3) := by decide +kernel
theorem dX8_mostGroupsWithOneLess_33 : decode cX8_mostGroupsWithOneLess 33 = .ok (.istore_n 2, 1) := by decide +kernel
theorem dX8_mostGroupsWithOneLess_34 : decode cX8_mostGroupsWithOneLess 34 = .ok (.iinc 3 1, 3) := by decide +kernel
theorem dX8_mostGroupsWithOneLess_37 : decode cX8_mostGroupsWithOneLess 37 = .ok (.goto (-33), 3) := by decide +kernel
theorem dX8_mostGroupsWithOneLess_40 : decode cX8_mostGroupsWithOneLess 40 = .ok (.iload_n 2, 1) := by decide +kernel
theorem dX8_mostGroupsWithOneLess_41 : decode cX8_mostGroupsWithOneLess 41 = .ok (.ireturn, 1) := by decide +kernel
theorem dX8_with_0 : decode cX8_with 0 = .ok (.ldc2_w 329, 3) := by decide +kernel
theorem dX8_with_3 : decode cX8_with 3 = .ok (.lload_n 0, 1) := by decide +kernel
theorem dX8_with_4 : decode cX8_with 4 = .ok (.lmul, 1) := by decide +kernel
theorem dX8_with_5 : decode cX8_with 5 = .ok (.lload_n 2, 1) := by decide +kernel
theorem dX8_with_6 : decode cX8_with 6 = .ok (.ladd, 1) := by decide +kernel
theorem dX8_with_7 : decode cX8_with 7 = .ok (.lreturn, 1) := by decide +kernel
theorem dX8_withThieves_0 : decode cX8_withThieves 0 = .ok (.lload_n 1, 1) := by decide +kernel
theorem dX8_withThieves_1 : decode cX8_withThieves 1 = .ok (.lstore_n 3, 1) := by decide +kernel
theorem dX8_withThieves_2 : decode cX8_withThieves 2 = .ok (.iconst 0, 1) := by decide +kernel
theorem dX8_withThieves_3 : decode cX8_withThieves 3 = .ok (.istore 5, 2) := by decide +kernel
theorem dX8_withThieves_5 : decode cX8_withThieves 5 = .ok (.iload 5, 2) := by decide +kernel
theorem dX8_withThieves_7 : decode cX8_withThieves 7 = .ok (.aload_n 0, 1) := by decide +kernel
theorem dX8_withThieves_8 : decode cX8_withThieves 8 = .ok (.getfield 62, 3) := by decide +kernel
theorem dX8_withThieves_11 : decode cX8_withThieves 11 = .ok (.if_icmp .ge 38, 3) := by decide +kernel
theorem dX8_withThieves_14 : decode cX8_withThieves 14 = .ok (.iconst 0, 1) := by decide +kernel
theorem dX8_withThieves_15 : decode cX8_withThieves 15 = .ok (.istore 6, 2) := by decide +kernel
theorem dX8_withThieves_17 : decode cX8_withThieves 17 = .ok (.iload 6, 2) := by decide +kernel
theorem dX8_withThieves_19 : decode cX8_withThieves 19 = .ok (.iconst 5, 1) := by decide +kernel
theorem dX8_withThieves_20 : decode cX8_withThieves 20 = .ok (.if_icmp .gt 23, 3) := by decide +kernel
theorem dX8_withThieves_23 : decode cX8_withThieves 23 = .ok (.lload_n 3, 1) := by decide +kernel
theorem dX8_withThieves_24 : decode cX8_withThieves 24 = .ok (.aload_n 0, 1) := by decide +kernel
theorem dX8_withThieves_25 : decode cX8_withThieves 25 = .ok (.iload 5, 2) := by decide +kernel
theorem dX8_withThieves_27 : decode cX8_withThieves 27 = .ok (.iload 6, 2) := by decide +kernel
theorem dX8_withThieves_29 : decode cX8_withThieves 29 = .ok (.invokevirtual 331, 3) := by decide +kernel
theorem dX8_withThieves_32 : decode cX8_withThieves 32 = .ok (.i2l, 1) := by decide +kernel
theorem dX8_withThieves_33 : decode cX8_withThieves 33 = .ok (.invokestatic 266, 3) := by decide +kernel
theorem dX8_withThieves_36 : decode cX8_withThieves 36 = .ok (.lstore_n 3, 1) := by decide +kernel
theorem dX8_withThieves_37 : decode cX8_withThieves 37 = .ok (.iinc 6 1, 3) := by decide +kernel
theorem dX8_withThieves_40 : decode cX8_withThieves 40 = .ok (.goto (-23), 3) := by decide +kernel
theorem dX8_withThieves_43 : decode cX8_withThieves 43 = .ok (.iinc 5 1, 3) := by decide +kernel
theorem dX8_withThieves_46 : decode cX8_withThieves 46 = .ok (.goto (-41), 3) := by decide +kernel
theorem dX8_withThieves_49 : decode cX8_withThieves 49 = .ok (.lload_n 3, 1) := by decide +kernel
theorem dX8_withThieves_50 : decode cX8_withThieves 50 = .ok (.lreturn, 1) := by decide +kernel
theorem dX8_withHouses_0 : decode cX8_withHouses 0 = .ok (.lload_n 1, 1) := by decide +kernel
theorem dX8_withHouses_1 : decode cX8_withHouses 1 = .ok (.lstore_n 3, 1) := by decide +kernel
theorem dX8_withHouses_2 : decode cX8_withHouses 2 = .ok (.iconst 0, 1) := by decide +kernel
theorem dX8_withHouses_3 : decode cX8_withHouses 3 = .ok (.istore 5, 2) := by decide +kernel
theorem dX8_withHouses_5 : decode cX8_withHouses 5 = .ok (.iload 5, 2) := by decide +kernel
theorem dX8_withHouses_7 : decode cX8_withHouses 7 = .ok (.bipush 8, 2) := by decide +kernel
theorem dX8_withHouses_9 : decode cX8_withHouses 9 = .ok (.if_icmp .ge 60, 3) := by decide +kernel
theorem dX8_withHouses_12 : decode cX8_withHouses 12 = .ok (.lload_n 3, 1) := by decide +kernel
theorem dX8_withHouses_13 : decode cX8_withHouses 13 = .ok (.aload_n 0, 1) := by decide +kernel
theorem dX8_withHouses_14 : decode cX8_withHouses 14 = .ok (.getfield 39, 3) := by decide +kernel
theorem dX8_withHouses_17 : decode cX8_withHouses 17 = .ok (.getfield 160, 3) := by decide +kernel
theorem dX8_withHouses_20 : decode cX8_withHouses 20 = .ok (.iload 5, 2) := by decide +kernel
theorem dX8_withHouses_22 : decode cX8_withHouses 22 = .ok (.iaload, 1) := by decide +kernel
theorem dX8_withHouses_23 : decode cX8_withHouses 23 = .ok (.i2l, 1) := by decide +kernel
theorem dX8_withHouses_24 : decode cX8_withHouses 24 = .ok (.invokestatic 266, 3) := by decide +kernel
theorem dX8_withHouses_27 : decode cX8_withHouses 27 = .ok (.lstore_n 3, 1) := by decide +kernel
theorem dX8_withHouses_28 : decode cX8_withHouses 28 = .ok (.lload_n 3, 1) := by decide +kernel
theorem dX8_withHouses_29 : decode cX8_withHouses 29 = .ok (.aload_n 0, 1) := by decide +kernel
theorem dX8_withHouses_30 : decode cX8_withHouses 30 = .ok (.getfield 39, 3) := by decide +kernel
theorem dX8_withHouses_33 : decode cX8_withHouses 33 = .ok (.getfield 163, 3) := by decide +kernel
theorem dX8_withHouses_36 : decode cX8_withHouses 36 = .ok (.iload 5, 2) := by decide +kernel
theorem dX8_withHouses_38 : decode cX8_withHouses 38 = .ok (.baload, 1) := by decide +kernel
theorem dX8_withHouses_39 : decode cX8_withHouses 39 = .ok (.invokestatic 149, 3) := by decide +kernel
theorem dX8_withHouses_42 : decode cX8_withHouses 42 = .ok (.i2l, 1) := by decide +kernel
theorem dX8_withHouses_43 : decode cX8_withHouses 43 = .ok (.invokestatic 266, 3) := by decide +kernel
theorem dX8_withHouses_46 : decode cX8_withHouses 46 = .ok (.lstore_n 3, 1) := by decide +kernel
theorem dX8_withHouses_47 : decode cX8_withHouses 47 = .ok (.lload_n 3, 1) := by decide +kernel
theorem dX8_withHouses_48 : decode cX8_withHouses 48 = .ok (.aload_n 0, 1) := by decide +kernel
theorem dX8_withHouses_49 : decode cX8_withHouses 49 = .ok (.aload_n 0, 1) := by decide +kernel
theorem dX8_withHouses_50 : decode cX8_withHouses 50 = .ok (.getfield 39, 3) := by decide +kernel
theorem dX8_withHouses_53 : decode cX8_withHouses 53 = .ok (.iload 5, 2) := by decide +kernel
theorem dX8_withHouses_55 : decode cX8_withHouses 55 = .ok (.invokevirtual 175, 3) := by decide +kernel
theorem dX8_withHouses_58 : decode cX8_withHouses 58 = .ok (.i2l, 1) := by decide +kernel
theorem dX8_withHouses_59 : decode cX8_withHouses 59 = .ok (.invokestatic 266, 3) := by decide +kernel
theorem dX8_withHouses_62 : decode cX8_withHouses 62 = .ok (.lstore_n 3, 1) := by decide +kernel
theorem dX8_withHouses_63 : decode cX8_withHouses 63 = .ok (.iinc 5 1, 3) := by decide +kernel
theorem dX8_withHouses_66 : decode cX8_withHouses 66 = .ok (.goto (-61), 3) := by decide +kernel
theorem dX8_withHouses_69 : decode cX8_withHouses 69 = .ok (.lload_n 3, 1) := by decide +kernel
theorem dX8_withHouses_70 : decode cX8_withHouses 70 = .ok (.lreturn, 1) := by decide +kernel
theorem dX8_withSpoons_0 : decode cX8_withSpoons 0 = .ok (.lload_n 1, 1) := by decide +kernel
theorem dX8_withSpoons_1 : decode cX8_withSpoons 1 = .ok (.lstore_n 3, 1) := by decide +kernel
theorem dX8_withSpoons_2 : decode cX8_withSpoons 2 = .ok (.iconst 0, 1) := by decide +kernel
theorem dX8_withSpoons_3 : decode cX8_withSpoons 3 = .ok (.istore 5, 2) := by decide +kernel
theorem dX8_withSpoons_5 : decode cX8_withSpoons 5 = .ok (.iload 5, 2) := by decide +kernel
theorem dX8_withSpoons_7 : decode cX8_withSpoons 7 = .ok (.aload_n 0, 1) := by decide +kernel
theorem dX8_withSpoons_8 : decode cX8_withSpoons 8 = .ok (.getfield 66, 3) := by decide +kernel
theorem dX8_withSpoons_11 : decode cX8_withSpoons 11 = .ok (.if_icmp .ge 38, 3) := by decide +kernel
theorem dX8_withSpoons_14 : decode cX8_withSpoons 14 = .ok (.iconst 0, 1) := by decide +kernel
theorem dX8_withSpoons_15 : decode cX8_withSpoons 15 = .ok (.istore 6, 2) := by decide +kernel
theorem dX8_withSpoons_17 : decode cX8_withSpoons 17 = .ok (.iload 6, 2) := by decide +kernel
theorem dX8_withSpoons_19 : decode cX8_withSpoons 19 = .ok (.iconst 3, 1) := by decide +kernel
theorem dX8_withSpoons_20 : decode cX8_withSpoons 20 = .ok (.if_icmp .gt 23, 3) := by decide +kernel
theorem dX8_withSpoons_23 : decode cX8_withSpoons 23 = .ok (.lload_n 3, 1) := by decide +kernel
theorem dX8_withSpoons_24 : decode cX8_withSpoons 24 = .ok (.aload_n 0, 1) := by decide +kernel
theorem dX8_withSpoons_25 : decode cX8_withSpoons 25 = .ok (.iload 5, 2) := by decide +kernel
theorem dX8_withSpoons_27 : decode cX8_withSpoons 27 = .ok (.iload 6, 2) := by decide +kernel
theorem dX8_withSpoons_29 : decode cX8_withSpoons 29 = .ok (.invokevirtual 334, 3) := by decide +kernel
theorem dX8_withSpoons_32 : decode cX8_withSpoons 32 = .ok (.i2l, 1) := by decide +kernel
theorem dX8_withSpoons_33 : decode cX8_withSpoons 33 = .ok (.invokestatic 266, 3) := by decide +kernel
theorem dX8_withSpoons_36 : decode cX8_withSpoons 36 = .ok (.lstore_n 3, 1) := by decide +kernel
theorem dX8_withSpoons_37 : decode cX8_withSpoons 37 = .ok (.iinc 6 1, 3) := by decide +kernel
theorem dX8_withSpoons_40 : decode cX8_withSpoons 40 = .ok (.goto (-23), 3) := by decide +kernel
theorem dX8_withSpoons_43 : decode cX8_withSpoons 43 = .ok (.iinc 5 1, 3) := by decide +kernel
theorem dX8_withSpoons_46 : decode cX8_withSpoons 46 = .ok (.goto (-41), 3) := by decide +kernel
theorem dX8_withSpoons_49 : decode cX8_withSpoons 49 = .ok (.lload_n 3, 1) := by decide +kernel
theorem dX8_withSpoons_50 : decode cX8_withSpoons 50 = .ok (.lreturn, 1) := by decide +kernel
theorem dX8_withOutlook_0 : decode cX8_withOutlook 0 = .ok (.lload_n 1, 1) := by decide +kernel
theorem dX8_withOutlook_1 : decode cX8_withOutlook 1 = .ok (.aload_n 0, 1) := by decide +kernel
theorem dX8_withOutlook_2 : decode cX8_withOutlook 2 = .ok (.invokevirtual 337, 3) := by decide +kernel
theorem dX8_withOutlook_5 : decode cX8_withOutlook 5 = .ok (.i2l, 1) := by decide +kernel
theorem dX8_withOutlook_6 : decode cX8_withOutlook 6 = .ok (.invokestatic 266, 3) := by decide +kernel
theorem dX8_withOutlook_9 : decode cX8_withOutlook 9 = .ok (.lstore_n 3, 1) := by decide +kernel
theorem dX8_withOutlook_10 : decode cX8_withOutlook 10 = .ok (.lload_n 3, 1) := by decide +kernel
theorem dX8_withOutlook_11 : decode cX8_withOutlook 11 = .ok (.aload_n 0, 1) := by decide +kernel
theorem dX8_withOutlook_12 : decode cX8_withOutlook 12 = .ok (.invokevirtual 340, 3) := by decide +kernel
theorem dX8_withOutlook_15 : decode cX8_withOutlook 15 = .ok (.i2l, 1) := by decide +kernel
theorem dX8_withOutlook_16 : decode cX8_withOutlook 16 = .ok (.invokestatic 266, 3) := by decide +kernel
theorem dX8_withOutlook_19 : decode cX8_withOutlook 19 = .ok (.lstore_n 3, 1) := by decide +kernel
theorem dX8_withOutlook_20 : decode cX8_withOutlook 20 = .ok (.iconst 0, 1) := by decide +kernel
theorem dX8_withOutlook_21 : decode cX8_withOutlook 21 = .ok (.istore 5, 2) := by decide +kernel
theorem dX8_withOutlook_23 : decode cX8_withOutlook 23 = .ok (.iload 5, 2) := by decide +kernel
theorem dX8_withOutlook_25 : decode cX8_withOutlook 25 = .ok (.bipush 8, 2) := by decide +kernel
theorem dX8_withOutlook_27 : decode cX8_withOutlook 27 = .ok (.if_icmp .ge 41, 3) := by decide +kernel
theorem dX8_withOutlook_30 : decode cX8_withOutlook 30 = .ok (.aload_n 0, 1) := by decide +kernel
theorem dX8_withOutlook_31 : decode cX8_withOutlook 31 = .ok (.iload 5, 2) := by decide +kernel
theorem dX8_withOutlook_33 : decode cX8_withOutlook 33 = .ok (.iconst 3, 1) := by decide +kernel
theorem dX8_withOutlook_34 : decode cX8_withOutlook 34 = .ok (.invokevirtual 209, 3) := by decide +kernel
theorem dX8_withOutlook_37 : decode cX8_withOutlook 37 = .ok (.istore 6, 2) := by decide +kernel
theorem dX8_withOutlook_39 : decode cX8_withOutlook 39 = .ok (.lload_n 3, 1) := by decide +kernel
theorem dX8_withOutlook_40 : decode cX8_withOutlook 40 = .ok (.aload_n 0, 1) := by decide +kernel
theorem dX8_withOutlook_41 : decode cX8_withOutlook 41 = .ok (.iload 5, 2) := by decide +kernel
theorem dX8_withOutlook_43 : decode cX8_withOutlook 43 = .ok (.iconst 3, 1) := by decide +kernel
theorem dX8_withOutlook_44 : decode cX8_withOutlook 44 = .ok (.iload 6, 2) := by decide +kernel
theorem dX8_withOutlook_46 : decode cX8_withOutlook 46 = .ok (.invokevirtual 213, 3) := by decide +kernel
theorem dX8_withOutlook_49 : decode cX8_withOutlook 49 = .ok (.i2l, 1) := by decide +kernel
theorem dX8_withOutlook_50 : decode cX8_withOutlook 50 = .ok (.invokestatic 266, 3) := by decide +kernel
theorem dX8_withOutlook_53 : decode cX8_withOutlook 53 = .ok (.lstore_n 3, 1) := by decide +kernel
theorem dX8_withOutlook_54 : decode cX8_withOutlook 54 = .ok (.lload_n 3, 1) := by decide +kernel
theorem dX8_withOutlook_55 : decode cX8_withOutlook 55 = .ok (.iload 6, 2) := by decide +kernel
theorem dX8_withOutlook_57 : decode cX8_withOutlook 57 = .ok (.i2l, 1) := by decide +kernel
theorem dX8_withOutlook_58 : decode cX8_withOutlook 58 = .ok (.invokestatic 266, 3) := by decide +kernel
theorem dX8_withOutlook_61 : decode cX8_withOutlook 61 = .ok (.lstore_n 3, 1) := by decide +kernel
theorem dX8_withOutlook_62 : decode cX8_withOutlook 62 = .ok (.iinc 5 1, 3) := by decide +kernel
theorem dX8_withOutlook_65 : decode cX8_withOutlook 65 = .ok (.goto (-42), 3) := by decide +kernel
theorem dX8_withOutlook_68 : decode cX8_withOutlook 68 = .ok (.lload_n 3, 1) := by decide +kernel
theorem dX8_withOutlook_69 : decode cX8_withOutlook 69 = .ok (.lreturn, 1) := by decide +kernel
theorem dX9_init_0 : decode cX9_init 0 = .ok (.aload_n 0, 1) := by decide +kernel
theorem dX9_init_1 : decode cX9_init 1 = .ok (.invokespecial 1, 3) := by decide +kernel
theorem dX9_init_4 : decode cX9_init 4 = .ok (.aload_n 0, 1) := by decide +kernel
theorem dX9_init_5 : decode cX9_init 5 = .ok (.bipush 40, 2) := by decide +kernel
theorem dX9_init_7 : decode cX9_init 7 = .ok (.newarray .int, 2) := by decide +kernel
theorem dX9_init_9 : decode cX9_init 9 = .ok (.putfield 7, 3) := by decide +kernel
theorem dX9_init_12 : decode cX9_init 12 = .ok (.aload_n 0, 1) := by decide +kernel
theorem dX9_init_13 : decode cX9_init 13 = .ok (.bipush 32, 2) := by decide +kernel
theorem dX9_init_15 : decode cX9_init 15 = .ok (.newarray .int, 2) := by decide +kernel
theorem dX9_init_17 : decode cX9_init 17 = .ok (.putfield 13, 3) := by decide +kernel
theorem dX9_init_20 : decode cX9_init 20 = .ok (.aload_n 0, 1) := by decide +kernel
theorem dX9_init_21 : decode cX9_init 21 = .ok (.bipush 32, 2) := by decide +kernel
theorem dX9_init_23 : decode cX9_init 23 = .ok (.newarray .int, 2) := by decide +kernel
theorem dX9_init_25 : decode cX9_init 25 = .ok (.putfield 16, 3) := by decide +kernel
theorem dX9_init_28 : decode cX9_init 28 = .ok (.aload_n 0, 1) := by decide +kernel
theorem dX9_init_29 : decode cX9_init 29 = .ok (.bipush 8, 2) := by decide +kernel
theorem dX9_init_31 : decode cX9_init 31 = .ok (.newarray .int, 2) := by decide +kernel
theorem dX9_init_33 : decode cX9_init 33 = .ok (.putfield 19, 3) := by decide +kernel
theorem dX9_init_36 : decode cX9_init 36 = .ok (.aload_n 0, 1) := by decide +kernel
theorem dX9_init_37 : decode cX9_init 37 = .ok (.bipush 8, 2) := by decide +kernel
theorem dX9_init_39 : decode cX9_init 39 = .ok (.newarray .int, 2) := by decide +kernel
theorem dX9_init_41 : decode cX9_init 41 = .ok (.putfield 22, 3) := by decide +kernel
theorem dX9_init_44 : decode cX9_init 44 = .ok (.aload_n 0, 1) := by decide +kernel
theorem dX9_init_45 : decode cX9_init 45 = .ok (.bipush 32, 2) := by decide +kernel
theorem dX9_init_47 : decode cX9_init 47 = .ok (.newarray .int, 2) := by decide +kernel
theorem dX9_init_49 : decode cX9_init 49 = .ok (.putfield 25, 3) := by decide +kernel
theorem dX9_init_52 : decode cX9_init 52 = .ok (.aload_n 0, 1) := by decide +kernel
theorem dX9_init_53 : decode cX9_init 53 = .ok (.bipush 8, 2) := by decide +kernel
theorem dX9_init_55 : decode cX9_init 55 = .ok (.newarray .int, 2) := by decide +kernel
theorem dX9_init_57 : decode cX9_init 57 = .ok (.putfield 28, 3) := by decide +kernel
theorem dX9_init_60 : decode cX9_init 60 = .ok (.aload_n 0, 1) := by decide +kernel
theorem dX9_init_61 : decode cX9_init 61 = .ok (.bipush 8, 2) := by decide +kernel
theorem dX9_init_63 : decode cX9_init 63 = .ok (.newarray .int, 2) := by decide +kernel
theorem dX9_init_65 : decode cX9_init 65 = .ok (.putfield 31, 3) := by decide +kernel
theorem dX9_init_68 : decode cX9_init 68 = .ok (.aload_n 0, 1) := by decide +kernel
theorem dX9_init_69 : decode cX9_init 69 = .ok (.bipush 8, 2) := by decide +kernel
theorem dX9_init_71 : decode cX9_init 71 = .ok (.newarray .long, 2) := by decide +kernel
theorem dX9_init_73 : decode cX9_init 73 = .ok (.putfield 34, 3) := by decide +kernel
theorem dX9_init_76 : decode cX9_init 76 = .ok (.aload_n 0, 1) := by decide +kernel
theorem dX9_init_77 : decode cX9_init 77 = .ok (.sipush 256, 3) := by decide +kernel
theorem dX9_init_80 : decode cX9_init 80 = .ok (.newarray .int, 2) := by decide +kernel
theorem dX9_init_82 : decode cX9_init 82 = .ok (.putfield 38, 3) := by decide +kernel
theorem dX9_init_85 : decode cX9_init 85 = .ok (.aload_n 0, 1) := by decide +kernel
theorem dX9_init_86 : decode cX9_init 86 = .ok (.bipush 8, 2) := by decide +kernel
theorem dX9_init_88 : decode cX9_init 88 = .ok (.newarray .int, 2) := by decide +kernel
theorem dX9_init_90 : decode cX9_init 90 = .ok (.putfield 41, 3) := by decide +kernel
theorem dX9_init_93 : decode cX9_init 93 = .ok (.aload_n 0, 1) := by decide +kernel
theorem dX9_init_94 : decode cX9_init 94 = .ok (.bipush 8, 2) := by decide +kernel
theorem dX9_init_96 : decode cX9_init 96 = .ok (.newarray .int, 2) := by decide +kernel
theorem dX9_init_98 : decode cX9_init 98 = .ok (.putfield 44, 3) := by decide +kernel
theorem dX9_init_101 : decode cX9_init 101 = .ok (.aload_n 0, 1) := by decide +kernel
theorem dX9_init_102 : decode cX9_init 102 = .ok (.bipush 8, 2) := by decide +kernel
theorem dX9_init_104 : decode cX9_init 104 = .ok (.newarray .int, 2) := by decide +kernel
theorem dX9_init_106 : decode cX9_init 106 = .ok (.putfield 47, 3) := by decide +kernel
theorem dX9_init_109 : decode cX9_init 109 = .ok (.aload_n 0, 1) := by decide +kernel
theorem dX9_init_110 : decode cX9_init 110 = .ok (.bipush 32, 2) := by decide +kernel
theorem dX9_init_112 : decode cX9_init 112 = .ok (.newarray .int, 2) := by decide +kernel
theorem dX9_init_114 : decode cX9_init 114 = .ok (.putfield 50, 3) := by decide +kernel
theorem dX9_init_117 : decode cX9_init 117 = .ok (.aload_n 0, 1) := by decide +kernel
theorem dX9_init_118 : decode cX9_init 118 = .ok (.iconst (-1), 1) := by decide +kernel
theorem dX9_init_119 : decode cX9_init 119 = .ok (.putfield 53, 3) := by decide +kernel
theorem dX9_init_122 : decode cX9_init 122 = .ok (.return_, 1) := by decide +kernel
theorem dX9_in_0 : decode cX9_in 0 = .ok (.lload_n 0, 1) := by decide +kernel
theorem dX9_in_1 : decode cX9_in 1 = .ok (.lload_n 2, 1) := by decide +kernel
theorem dX9_in_2 : decode cX9_in 2 = .ok (.lcmp, 1) := by decide +kernel
theorem dX9_in_3 : decode cX9_in 3 = .ok (.ifCond .lt 14, 3) := by decide +kernel
theorem dX9_in_6 : decode cX9_in 6 = .ok (.lload_n 0, 1) := by decide +kernel
theorem dX9_in_7 : decode cX9_in 7 = .ok (.lload 4, 2) := by decide +kernel
theorem dX9_in_9 : decode cX9_in 9 = .ok (.lcmp, 1) := by decide +kernel
theorem dX9_in_10 : decode cX9_in 10 = .ok (.ifCond .gt 7, 3) := by decide +kernel
theorem dX9_in_13 : decode cX9_in 13 = .ok (.iconst 1, 1) := by decide +kernel
theorem dX9_in_14 : decode cX9_in 14 = .ok (.goto 4, 3) := by decide +kernel
theorem dX9_in_17 : decode cX9_in 17 = .ok (.iconst 0, 1) := by decide +kernel
theorem dX9_in_18 : decode cX9_in 18 = .ok (.ireturn, 1) := by decide +kernel
theorem dX9_letters_0 : decode cX9_letters 0 = .ok (.iconst 0, 1) := by decide +kernel
theorem dX9_letters_1 : decode cX9_letters 1 = .ok (.istore_n 3, 1) := by decide +kernel
theorem dX9_letters_2 : decode cX9_letters 2 = .ok (.iconst 1, 1) := by decide +kernel
theorem dX9_letters_3 : decode cX9_letters 3 = .ok (.istore 4, 2) := by decide +kernel
theorem dX9_letters_5 : decode cX9_letters 5 = .ok (.lload_n 1, 1) := by decide +kernel
theorem dX9_letters_6 : decode cX9_letters 6 = .ok (.lstore 5, 2) := by decide +kernel
theorem dX9_letters_8 : decode cX9_letters 8 = .ok (.iconst 0, 1) := by decide +kernel
theorem dX9_letters_9 : decode cX9_letters 9 = .ok (.istore 7, 2) := by decide +kernel
theorem dX9_letters_11 : decode cX9_letters 11 = .ok (.iload 7, 2) := by decide +kernel
theorem dX9_letters_13 : decode cX9_letters 13 = .ok (.bipush 8, 2) := by decide +kernel
theorem dX9_letters_15 : decode cX9_letters 15 = .ok (.if_icmp .ge 68, 3) := by decide +kernel
theorem dX9_letters_18 : decode cX9_letters 18 = .ok (.lload 5, 2) := by decide +kernel
theorem dX9_letters_20 : decode cX9_letters 20 = .ok (.ldc2_w 57, 3) := by decide +kernel
theorem dX9_letters_23 : decode cX9_letters 23 = .ok (.land, 1) := by decide +kernel
theorem dX9_letters_24 : decode cX9_letters 24 = .ok (.l2i, 1) := by decide +kernel
theorem dX9_letters_25 : decode cX9_letters 25 = .ok (.istore 8, 2) := by decide +kernel
theorem dX9_letters_27 : decode cX9_letters 27 = .ok (.lload 5, 2) := by decide +kernel
theorem dX9_letters_29 : decode cX9_letters 29 = .ok (.bipush 8, 2) := by decide +kernel
theorem dX9_letters_31 : decode cX9_letters 31 = .ok (.lushr, 1) := by decide +kernel
theorem dX9_letters_32 : decode cX9_letters 32 = .ok (.lstore 5, 2) := by decide +kernel
theorem dX9_letters_34 : decode cX9_letters 34 = .ok (.iload 4, 2) := by decide +kernel
theorem dX9_letters_36 : decode cX9_letters 36 = .ok (.ifCond .eq 25, 3) := by decide +kernel
theorem dX9_letters_39 : decode cX9_letters 39 = .ok (.iload 8, 2) := by decide +kernel
theorem dX9_letters_41 : decode cX9_letters 41 = .ok (.bipush 126, 2) := by decide +kernel
theorem dX9_letters_43 : decode cX9_letters 43 = .ok (.if_icmp .gt 18, 3) := by decide +kernel
theorem dX9_letters_46 : decode cX9_letters 46 = .ok (.iload 8, 2) := by decide +kernel
theorem dX9_letters_48 : decode cX9_letters 48 = .ok (.ifCond .eq 9, 3) := by decide +kernel
theorem dX9_letters_51 : decode cX9_letters 51 = .ok (.iload_n 3, 1) := by decide +kernel
theorem dX9_letters_52 : decode cX9_letters 52 = .ok (.iload 7, 2) := by decide +kernel
theorem dX9_letters_54 : decode cX9_letters 54 = .ok (.if_icmp .ne 7, 3) := by decide +kernel
theorem dX9_letters_57 : decode cX9_letters 57 = .ok (.iconst 1, 1) := by decide +kernel
theorem dX9_letters_58 : decode cX9_letters 58 = .ok (.goto 4, 3) := by decide +kernel
theorem dX9_letters_61 : decode cX9_letters 61 = .ok (.iconst 0, 1) := by decide +kernel
theorem dX9_letters_62 : decode cX9_letters 62 = .ok (.istore 4, 2) := by decide +kernel
theorem dX9_letters_64 : decode cX9_letters 64 = .ok (.iload_n 3, 1) := by decide +kernel
theorem dX9_letters_65 : decode cX9_letters 65 = .ok (.iload 8, 2) := by decide +kernel
theorem dX9_letters_67 : decode cX9_letters 67 = .ok (.ifCond .le 7, 3) := by decide +kernel
theorem dX9_letters_70 : decode cX9_letters 70 = .ok (.iconst 1, 1) := by decide +kernel
theorem dX9_letters_71 : decode cX9_letters 71 = .ok (.goto 4, 3) := by decide +kernel
theorem dX9_letters_74 : decode cX9_letters 74 = .ok (.iconst 0, 1) := by decide +kernel
theorem dX9_letters_75 : decode cX9_letters 75 = .ok (.iadd, 1) := by decide +kernel
theorem dX9_letters_76 : decode cX9_letters 76 = .ok (.istore_n 3, 1) := by decide +kernel
theorem dX9_letters_77 : decode cX9_letters 77 = .ok (.iinc 7 1, 3) := by decide +kernel
theorem dX9_letters_80 : decode cX9_letters 80 = .ok (.goto (-69), 3) := by decide +kernel
theorem dX9_letters_83 : decode cX9_letters 83 = .ok (.iload 4, 2) := by decide +kernel
theorem dX9_letters_85 : decode cX9_letters 85 = .ok (.ifCond .ne 6, 3) := by decide +kernel
theorem dX9_letters_88 : decode cX9_letters 88 = .ok (.bipush (-102), 2) := by decide +kernel
theorem dX9_letters_90 : decode cX9_letters 90 = .ok (.ireturn, 1) := by decide +kernel
theorem dX9_letters_91 : decode cX9_letters 91 = .ok (.aload_n 0, 1) := by decide +kernel
theorem dX9_letters_92 : decode cX9_letters 92 = .ok (.getfield 59, 3) := by decide +kernel
theorem dX9_letters_95 : decode cX9_letters 95 = .ok (.iload_n 3, 1) := by decide +kernel
theorem dX9_letters_96 : decode cX9_letters 96 = .ok (.iadd, 1) := by decide +kernel
theorem dX9_letters_97 : decode cX9_letters 97 = .ok (.bipush 40, 2) := by decide +kernel
theorem dX9_letters_99 : decode cX9_letters 99 = .ok (.if_icmp .le 6, 3) := by decide +kernel
theorem dX9_letters_102 : decode cX9_letters 102 = .ok (.bipush (-104), 2) := by decide +kernel
theorem dX9_letters_104 : decode cX9_letters 104 = .ok (.ireturn, 1) := by decide +kernel
theorem dX9_letters_105 : decode cX9_letters 105 = .ok (.iconst 0, 1) := by decide +kernel
theorem dX9_letters_106 : decode cX9_letters 106 = .ok (.istore 7, 2) := by decide +kernel
theorem dX9_letters_108 : decode cX9_letters 108 = .ok (.iload 7, 2) := by decide +kernel
theorem dX9_letters_110 : decode cX9_letters 110 = .ok (.iload_n 3, 1) := by decide +kernel
theorem dX9_letters_111 : decode cX9_letters 111 = .ok (.if_icmp .ge 40, 3) := by decide +kernel
theorem dX9_letters_114 : decode cX9_letters 114 = .ok (.aload_n 0, 1) := by decide +kernel
theorem dX9_letters_115 : decode cX9_letters 115 = .ok (.getfield 7, 3) := by decide +kernel
theorem dX9_letters_118 : decode cX9_letters 118 = .ok (.aload_n 0, 1) := by decide +kernel
theorem dX9_letters_119 : decode cX9_letters 119 = .ok (.getfield 59, 3) := by decide +kernel
theorem dX9_letters_122 : decode cX9_letters 122 = .ok (.lload_n 1, 1) := by decide +kernel
theorem dX9_letters_123 : decode cX9_letters 123 = .ok (.bipush 8, 2) := by decide +kernel
theorem dX9_letters_125 : decode cX9_letters 125 = .ok (.iload 7, 2) := by decide +kernel
theorem dX9_letters_127 : decode cX9_letters 127 = .ok (.imul, 1) := by decide +kernel
theorem dX9_letters_128 : decode cX9_letters 128 = .ok (.lushr, 1) := by decide +kernel
theorem dX9_letters_129 : decode cX9_letters 129 = .ok (.ldc2_w 57, 3) := by decide +kernel
theorem dX9_letters_132 : decode cX9_letters 132 = .ok (.land, 1) := by decide +kernel
theorem dX9_letters_133 : decode cX9_letters 133 = .ok (.l2i, 1) := by decide +kernel
theorem dX9_letters_134 : decode cX9_letters 134 = .ok (.iastore, 1) := by decide +kernel
theorem dX9_letters_135 : decode cX9_letters 135 = .ok (.aload_n 0, 1) := by decide +kernel
theorem dX9_letters_136 : decode cX9_letters 136 = .ok (.dup, 1) := by decide +kernel
theorem dX9_letters_137 : decode cX9_letters 137 = .ok (.getfield 59, 3) := by decide +kernel
theorem dX9_letters_140 : decode cX9_letters 140 = .ok (.iconst 1, 1) := by decide +kernel
theorem dX9_letters_141 : decode cX9_letters 141 = .ok (.iadd, 1) := by decide +kernel
theorem dX9_letters_142 : decode cX9_letters 142 = .ok (.putfield 59, 3) := by decide +kernel
theorem dX9_letters_145 : decode cX9_letters 145 = .ok (.iinc 7 1, 3) := by decide +kernel
theorem dX9_letters_148 : decode cX9_letters 148 = .ok (.goto (-40), 3) := by decide +kernel
theorem dX9_letters_151 : decode cX9_letters 151 = .ok (.aload_n 0, 1) := by decide +kernel
theorem dX9_letters_152 : decode cX9_letters 152 = .ok (.getfield 59, 3) := by decide +kernel
theorem dX9_letters_155 : decode cX9_letters 155 = .ok (.ireturn, 1) := by decide +kernel
theorem dX9_blank_0 : decode cX9_blank 0 = .ok (.aload_n 0, 1) := by decide +kernel
theorem dX9_blank_1 : decode cX9_blank 1 = .ok (.getfield 59, 3) := by decide +kernel
theorem dX9_blank_4 : decode cX9_blank 4 = .ok (.istore_n 1, 1) := by decide +kernel
theorem dX9_blank_5 : decode cX9_blank 5 = .ok (.aload_n 0, 1) := by decide +kernel
theorem dX9_blank_6 : decode cX9_blank 6 = .ok (.iconst 0, 1) := by decide +kernel
theorem dX9_blank_7 : decode cX9_blank 7 = .ok (.putfield 59, 3) := by decide +kernel
theorem dX9_blank_10 : decode cX9_blank 10 = .ok (.iload_n 1, 1) := by decide +kernel
theorem dX9_blank_11 : decode cX9_blank 11 = .ok (.ireturn, 1) := by decide +kernel
theorem dX9_kindOf_0 : decode cX9_kindOf 0 = .ok (.iload_n 0, 1) := by decide +kernel
theorem dX9_kindOf_1 : decode cX9_kindOf 1 = .ok (.bipush 115, 2) := by decide +kernel
theorem dX9_kindOf_3 : decode cX9_kindOf 3 = .ok (.if_icmp .ne 7, 3) := by decide +kernel
theorem dX9_kindOf_6 : decode cX9_kindOf 6 = .ok (.iconst 1, 1) := by decide +kernel
theorem dX9_kindOf_7 : decode cX9_kindOf 7 = .ok (.goto 34, 3) := by decide +kernel
theorem dX9_kindOf_10 : decode cX9_kindOf 10 = .ok (.iload_n 0, 1) := by decide +kernel
theorem dX9_kindOf_11 : decode cX9_kindOf 11 = .ok (.bipush 98, 2) := by decide +kernel
theorem dX9_kindOf_13 : decode cX9_kindOf 13 = .ok (.if_icmp .ne 7, 3) := by decide +kernel
theorem dX9_kindOf_16 : decode cX9_kindOf 16 = .ok (.iconst 2, 1) := by decide +kernel
theorem dX9_kindOf_17 : decode cX9_kindOf 17 = .ok (.goto 24, 3) := by decide +kernel
theorem dX9_kindOf_20 : decode cX9_kindOf 20 = .ok (.iload_n 0, 1) := by decide +kernel
theorem dX9_kindOf_21 : decode cX9_kindOf 21 = .ok (.bipush 104, 2) := by decide +kernel
theorem dX9_kindOf_23 : decode cX9_kindOf 23 = .ok (.if_icmp .ne 7, 3) := by decide +kernel
theorem dX9_kindOf_26 : decode cX9_kindOf 26 = .ok (.iconst 3, 1) := by decide +kernel
theorem dX9_kindOf_27 : decode cX9_kindOf 27 = .ok (.goto 14, 3) := by decide +kernel
theorem dX9_kindOf_30 : decode cX9_kindOf 30 = .ok (.iload_n 0, 1) := by decide +kernel
theorem dX9_kindOf_31 : decode cX9_kindOf 31 = .ok (.bipush 109, 2) := by decide +kernel
theorem dX9_kindOf_33 : decode cX9_kindOf 33 = .ok (.if_icmp .ne 7, 3) := by decide +kernel
theorem dX9_kindOf_36 : decode cX9_kindOf 36 = .ok (.iconst 4, 1) := by decide +kernel
theorem dX9_kindOf_37 : decode cX9_kindOf 37 = .ok (.goto 4, 3) := by decide +kernel
theorem dX9_kindOf_40 : decode cX9_kindOf 40 = .ok (.iconst (-1), 1) := by decide +kernel
theorem dX9_kindOf_41 : decode cX9_kindOf 41 = .ok (.ireturn, 1) := by decide +kernel
theorem dX9_goDigit_0 : decode cX9_goDigit 0 = .ok (.iconst 4, 1) := by decide +kernel
theorem dX9_goDigit_1 : decode cX9_goDigit 1 = .ok (.aload_n 0, 1) := by decide +kernel
theorem dX9_goDigit_2 : decode cX9_goDigit 2 = .ok (.getfield 62, 3) := by decide +kernel
theorem dX9_goDigit_5 : decode cX9_goDigit 5 = .ok (.imul, 1) := by decide +kernel
theorem dX9_goDigit_6 : decode cX9_goDigit 6 = .ok (.istore_n 2, 1) := by decide +kernel
theorem dX9_goDigit_7 : decode cX9_goDigit 7 = .ok (.aload_n 0, 1) := by decide +kernel
theorem dX9_goDigit_8 : decode cX9_goDigit 8 = .ok (.getfield 65, 3) := by decide +kernel
theorem dX9_goDigit_11 : decode cX9_goDigit 11 = .ok (.ifCond .ne 7, 3) := by decide +kernel
theorem dX9_goDigit_14 : decode cX9_goDigit 14 = .ok (.iconst 1, 1) := by decide +kernel
theorem dX9_goDigit_15 : decode cX9_goDigit 15 = .ok (.goto 7, 3) := by decide +kernel
theorem dX9_goDigit_18 : decode cX9_goDigit 18 = .ok (.aload_n 0, 1) := by decide +kernel
theorem dX9_goDigit_19 : decode cX9_goDigit 19 = .ok (.getfield 65, 3) := by decide +kernel
theorem dX9_goDigit_22 : decode cX9_goDigit 22 = .ok (.istore_n 3, 1) := by decide +kernel
theorem dX9_goDigit_23 : decode cX9_goDigit 23 = .ok (.iload_n 3, 1) := by decide +kernel
theorem dX9_goDigit_24 : decode cX9_goDigit 24 = .ok (.iconst 3, 1) := by decide +kernel
theorem dX9_goDigit_25 : decode cX9_goDigit 25 = .ok (.if_icmp .ne 15, 3) := by decide +kernel
theorem dX9_goDigit_28 : decode cX9_goDigit 28 = .ok (.iload_n 1, 1) := by decide +kernel
theorem dX9_goDigit_29 : decode cX9_goDigit 29 = .ok (.i2l, 1) := by decide +kernel
theorem dX9_goDigit_30 : decode cX9_goDigit 30 = .ok (.lconst 0, 1) := by decide +kernel
theorem dX9_goDigit_31 : decode cX9_goDigit 31 = .ok (.ldc2_w 68, 3) := by decide +kernel
theorem dX9_goDigit_34 : decode cX9_goDigit 34 = .ok (.invokestatic 70, 3) := by decide +kernel
theorem dX9_goDigit_37 : decode cX9_goDigit 37 = .ok (.goto 37, 3) := by decide +kernel
theorem dX9_goDigit_40 : decode cX9_goDigit 40 = .ok (.iload_n 1, 1) := by decide +kernel
theorem dX9_goDigit_41 : decode cX9_goDigit 41 = .ok (.i2l, 1) := by decide +kernel
theorem dX9_goDigit_42 : decode cX9_goDigit 42 = .ok (.lconst 0, 1) := by decide +kernel
theorem dX9_goDigit_43 : decode cX9_goDigit 43 = .ok (.ldc2_w 74, 3) := by decide +kernel
theorem dX9_goDigit_46 : decode cX9_goDigit 46 = .ok (.invokestatic 70, 3) := by decide +kernel
theorem dX9_goDigit_49 : decode cX9_goDigit 49 = .ok (.ifCond .eq 24, 3) := by decide +kernel
theorem dX9_goDigit_52 : decode cX9_goDigit 52 = .ok (.iload_n 3, 1) := by decide +kernel
theorem dX9_goDigit_53 : decode cX9_goDigit 53 = .ok (.iconst 1, 1) := by decide +kernel
theorem dX9_goDigit_54 : decode cX9_goDigit 54 = .ok (.if_icmp .eq 15, 3) := by decide +kernel
theorem dX9_goDigit_57 : decode cX9_goDigit 57 = .ok (.iload_n 1, 1) := by decide +kernel
theorem dX9_goDigit_58 : decode cX9_goDigit 58 = .ok (.aload_n 0, 1) := by decide +kernel
theorem dX9_goDigit_59 : decode cX9_goDigit 59 = .ok (.getfield 13, 3) := by decide +kernel
theorem dX9_goDigit_62 : decode cX9_goDigit 62 = .ok (.iload_n 2, 1) := by decide +kernel
theorem dX9_goDigit_63 : decode cX9_goDigit 63 = .ok (.iconst 1, 1) := by decide +kernel
theorem dX9_goDigit_64 : decode cX9_goDigit 64 = .ok (.iadd, 1) := by decide +kernel
theorem dX9_goDigit_65 : decode cX9_goDigit 65 = .ok (.iaload, 1) := by decide +kernel
theorem dX9_goDigit_66 : decode cX9_goDigit 66 = .ok (.if_icmp .eq 7, 3) := by decide +kernel
theorem dX9_goDigit_69 : decode cX9_goDigit 69 = .ok (.iconst 1, 1) := by decide +kernel
theorem dX9_goDigit_70 : decode cX9_goDigit 70 = .ok (.goto 4, 3) := by decide +kernel
theorem dX9_goDigit_73 : decode cX9_goDigit 73 = .ok (.iconst 0, 1) := by decide +kernel
theorem dX9_goDigit_74 : decode cX9_goDigit 74 = .ok (.istore 4, 2) := by decide +kernel
theorem dX9_goDigit_76 : decode cX9_goDigit 76 = .ok (.aload_n 0, 1) := by decide +kernel
theorem dX9_goDigit_77 : decode cX9_goDigit 77 = .ok (.getfield 13, 3) := by decide +kernel
theorem dX9_goDigit_80 : decode cX9_goDigit 80 = .ok (.iload_n 2, 1) := by decide +kernel
theorem dX9_goDigit_81 : decode cX9_goDigit 81 = .ok (.aload_n 0, 1) := by decide +kernel
theorem dX9_goDigit_82 : decode cX9_goDigit 82 = .ok (.getfield 65, 3) := by decide +kernel
theorem dX9_goDigit_85 : decode cX9_goDigit 85 = .ok (.ifCond .ne 7, 3) := by decide +kernel
theorem dX9_goDigit_88 : decode cX9_goDigit 88 = .ok (.iconst 0, 1) := by decide +kernel
theorem dX9_goDigit_89 : decode cX9_goDigit 89 = .ok (.goto 9, 3) := by decide +kernel
theorem dX9_goDigit_92 : decode cX9_goDigit 92 = .ok (.aload_n 0, 1) := by decide +kernel
theorem dX9_goDigit_93 : decode cX9_goDigit 93 = .ok (.getfield 13, 3) := by decide +kernel
theorem dX9_goDigit_96 : decode cX9_goDigit 96 = .ok (.iload_n 2, 1) := by decide +kernel
theorem dX9_goDigit_97 : decode cX9_goDigit 97 = .ok (.iaload, 1) := by decide +kernel
theorem dX9_goDigit_98 : decode cX9_goDigit 98 = .ok (.iastore, 1) := by decide +kernel
theorem dX9_goDigit_99 : decode cX9_goDigit 99 = .ok (.aload_n 0, 1) := by decide +kernel
theorem dX9_goDigit_100 : decode cX9_goDigit 100 = .ok (.getfield 13, 3) := by decide +kernel
theorem dX9_goDigit_103 : decode cX9_goDigit 103 = .ok (.iload_n 2, 1) := by decide +kernel
theorem dX9_goDigit_104 : decode cX9_goDigit 104 = .ok (.iload_n 3, 1) := by decide +kernel
theorem dX9_goDigit_105 : decode cX9_goDigit 105 = .ok (.iadd, 1) := by decide +kernel
theorem dX9_goDigit_106 : decode cX9_goDigit 106 = .ok (.iload_n 1, 1) := by decide +kernel
theorem dX9_goDigit_107 : decode cX9_goDigit 107 = .ok (.iastore, 1) := by decide +kernel
theorem dX9_goDigit_108 : decode cX9_goDigit 108 = .ok (.aload_n 0, 1) := by decide +kernel
theorem dX9_goDigit_109 : decode cX9_goDigit 109 = .ok (.dup, 1) := by decide +kernel
theorem dX9_goDigit_110 : decode cX9_goDigit 110 = .ok (.getfield 62, 3) := by decide +kernel
theorem dX9_goDigit_113 : decode cX9_goDigit 113 = .ok (.iload_n 3, 1) := by decide +kernel
theorem dX9_goDigit_114 : decode cX9_goDigit 114 = .ok (.iconst 3, 1) := by decide +kernel
theorem dX9_goDigit_115 : decode cX9_goDigit 115 = .ok (.if_icmp .ne 7, 3) := by decide +kernel
theorem dX9_goDigit_118 : decode cX9_goDigit 118 = .ok (.iconst 1, 1) := by decide +kernel
theorem dX9_goDigit_119 : decode cX9_goDigit 119 = .ok (.goto 4, 3) := by decide +kernel
theorem dX9_goDigit_122 : decode cX9_goDigit 122 = .ok (.iconst 0, 1) := by decide +kernel
theorem dX9_goDigit_123 : decode cX9_goDigit 123 = .ok (.iadd, 1) := by decide +kernel
theorem dX9_goDigit_124 : decode cX9_goDigit 124 = .ok (.putfield 62, 3) := by decide +kernel
theorem dX9_goDigit_127 : decode cX9_goDigit 127 = .ok (.aload_n 0, 1) := by decide +kernel
theorem dX9_goDigit_128 : decode cX9_goDigit 128 = .ok (.iload_n 3, 1) := by decide +kernel
theorem dX9_goDigit_129 : decode cX9_goDigit 129 = .ok (.iconst 1, 1) := by decide +kernel
theorem dX9_goDigit_130 : decode cX9_goDigit 130 = .ok (.iadd, 1) := by decide +kernel
theorem dX9_goDigit_131 : decode cX9_goDigit 131 = .ok (.putfield 65, 3) := by decide +kernel
theorem dX9_goDigit_134 : decode cX9_goDigit 134 = .ok (.iload 4, 2) := by decide +kernel
theorem dX9_goDigit_136 : decode cX9_goDigit 136 = .ok (.ireturn, 1) := by decide +kernel
theorem dX9_go_0 : decode cX9_go 0 = .ok (.aload_n 0, 1) := by decide +kernel
theorem dX9_go_1 : decode cX9_go 1 = .ok (.getfield 65, 3) := by decide +kernel
theorem dX9_go_4 : decode cX9_go 4 = .ok (.iconst 4, 1) := by decide +kernel
theorem dX9_go_5 : decode cX9_go 5 = .ok (.if_icmp .ne 29, 3) := by decide +kernel
theorem dX9_go_8 : decode cX9_go 8 = .ok (.aload_n 0, 1) := by decide +kernel
theorem dX9_go_9 : decode cX9_go 9 = .ok (.iconst 0, 1) := by decide +kernel
theorem dX9_go_10 : decode cX9_go 10 = .ok (.putfield 65, 3) := by decide +kernel
theorem dX9_go_13 : decode cX9_go 13 = .ok (.iload_n 1, 1) := by decide +kernel
theorem dX9_go_14 : decode cX9_go 14 = .ok (.bipush 44, 2) := by decide +kernel
theorem dX9_go_16 : decode cX9_go 16 = .ok (.if_icmp .ne 16, 3) := by decide +kernel
theorem dX9_go_19 : decode cX9_go 19 = .ok (.aload_n 0, 1) := by decide +kernel
theorem dX9_go_20 : decode cX9_go 20 = .ok (.getfield 62, 3) := by decide +kernel
theorem dX9_go_23 : decode cX9_go 23 = .ok (.bipush 8, 2) := by decide +kernel
theorem dX9_go_25 : decode cX9_go 25 = .ok (.if_icmp .ge 7, 3) := by decide +kernel
theorem dX9_go_28 : decode cX9_go 28 = .ok (.iconst 1, 1) := by decide +kernel
theorem dX9_go_29 : decode cX9_go 29 = .ok (.goto 4, 3) := by decide +kernel
theorem dX9_go_32 : decode cX9_go 32 = .ok (.iconst 0, 1) := by decide +kernel
theorem dX9_go_33 : decode cX9_go 33 = .ok (.ireturn, 1) := by decide +kernel
theorem dX9_go_34 : decode cX9_go 34 = .ok (.aload_n 0, 1) := by decide +kernel
theorem dX9_go_35 : decode cX9_go 35 = .ok (.getfield 65, 3) := by decide +kernel
theorem dX9_go_38 : decode cX9_go 38 = .ok (.ifCond .ne 33, 3) := by decide +kernel
theorem dX9_go_41 : decode cX9_go 41 = .ok (.iload_n 1, 1) := by decide +kernel
theorem dX9_go_42 : decode cX9_go 42 = .ok (.invokestatic 76, 3) := by decide +kernel
theorem dX9_go_45 : decode cX9_go 45 = .ok (.iconst (-1), 1) := by decide +kernel
theorem dX9_go_46 : decode cX9_go 46 = .ok (.if_icmp .eq 25, 3) := by decide +kernel
theorem dX9_go_49 : decode cX9_go 49 = .ok (.aload_n 0, 1) := by decide +kernel
theorem dX9_go_50 : decode cX9_go 50 = .ok (.getfield 13, 3) := by decide +kernel
theorem dX9_go_53 : decode cX9_go 53 = .ok (.iconst 4, 1) := by decide +kernel
theorem dX9_go_54 : decode cX9_go 54 = .ok (.aload_n 0, 1) := by decide +kernel
theorem dX9_go_55 : decode cX9_go 55 = .ok (.getfield 62, 3) := by decide +kernel
theorem dX9_go_58 : decode cX9_go 58 = .ok (.imul, 1) := by decide +kernel
theorem dX9_go_59 : decode cX9_go 59 = .ok (.iload_n 1, 1) := by decide +kernel
theorem dX9_go_60 : decode cX9_go 60 = .ok (.invokestatic 76, 3) := by decide +kernel
theorem dX9_go_63 : decode cX9_go 63 = .ok (.iastore, 1) := by decide +kernel
theorem dX9_go_64 : decode cX9_go 64 = .ok (.aload_n 0, 1) := by decide +kernel
theorem dX9_go_65 : decode cX9_go 65 = .ok (.iconst 1, 1) := by decide +kernel
theorem dX9_go_66 : decode cX9_go 66 = .ok (.putfield 65, 3) := by decide +kernel
theorem dX9_go_69 : decode cX9_go 69 = .ok (.iconst 1, 1) := by decide +kernel
theorem dX9_go_70 : decode cX9_go 70 = .ok (.ireturn, 1) := by decide +kernel
theorem dX9_go_71 : decode cX9_go 71 = .ok (.aload_n 0, 1) := by decide +kernel
theorem dX9_go_72 : decode cX9_go 72 = .ok (.iload_n 1, 1) := by decide +kernel
theorem dX9_go_73 : decode cX9_go 73 = .ok (.bipush 48, 2) := by decide +kernel
theorem dX9_go_75 : decode cX9_go 75 = .ok (.isub, 1) := by decide +kernel
theorem dX9_go_76 : decode cX9_go 76 = .ok (.invokevirtual 80, 3) := by decide +kernel
theorem dX9_go_79 : decode cX9_go 79 = .ok (.ireturn, 1) := by decide +kernel
theorem dX9_faultOf_0 : decode cX9_faultOf 0 = .ok (.aload_n 0, 1) := by decide +kernel
theorem dX9_faultOf_1 : decode cX9_faultOf 1 = .ok (.iconst 0, 1) := by decide +kernel
theorem dX9_faultOf_2 : decode cX9_faultOf 2 = .ok (.putfield 62, 3) := by decide +kernel
theorem dX9_faultOf_5 : decode cX9_faultOf 5 = .ok (.aload_n 0, 1) := by decide +kernel
theorem dX9_faultOf_6 : decode cX9_faultOf 6 = .ok (.iconst 0, 1) := by decide +kernel
theorem dX9_faultOf_7 : decode cX9_faultOf 7 = .ok (.putfield 65, 3) := by decide +kernel
theorem dX9_faultOf_10 : decode cX9_faultOf 10 = .ok (.iconst 0, 1) := by decide +kernel
theorem dX9_faultOf_11 : decode cX9_faultOf 11 = .ok (.istore_n 1, 1) := by decide +kernel
theorem dX9_faultOf_12 : decode cX9_faultOf 12 = .ok (.iload_n 1, 1) := by decide +kernel
theorem dX9_faultOf_13 : decode cX9_faultOf 13 = .ok (.aload_n 0, 1) := by decide +kernel
theorem dX9_faultOf_14 : decode cX9_faultOf 14 = .ok (.getfield 59, 3) := by decide +kernel
theorem dX9_faultOf_17 : decode cX9_faultOf 17 = .ok (.if_icmp .ge 22, 3) := by decide +kernel
theorem dX9_faultOf_20 : decode cX9_faultOf 20 = .ok (.aload_n 0, 1) := by decide +kernel
theorem dX9_faultOf_21 : decode cX9_faultOf 21 = .ok (.aload_n 0, 1) := by decide +kernel
theorem dX9_faultOf_22 : decode cX9_faultOf 22 = .ok (.getfield 7, 3) := by decide +kernel
theorem dX9_faultOf_25 : decode cX9_faultOf 25 = .ok (.iload_n 1, 1) := by decide +kernel
theorem dX9_faultOf_26 : decode cX9_faultOf 26 = .ok (.iaload, 1) := by decide +kernel
theorem dX9_faultOf_27 : decode cX9_faultOf 27 = .ok (.invokevirtual 84, 3) := by decide +kernel
theorem dX9_faultOf_30 : decode cX9_faultOf 30 = .ok (.ifCond .eq 9, 3) := by decide +kernel
theorem dX9_faultOf_33 : decode cX9_faultOf 33 = .ok (.iinc 1 1, 3) := by decide +kernel
theorem dX9_faultOf_36 : decode cX9_faultOf 36 = .ok (.goto (-24), 3) := by decide +kernel
theorem dX9_faultOf_39 : decode cX9_faultOf 39 = .ok (.iload_n 1, 1) := by decide +kernel
theorem dX9_faultOf_40 : decode cX9_faultOf 40 = .ok (.ireturn, 1) := by decide +kernel
theorem dX9_fault_0 : decode cX9_fault 0 = .ok (.aload_n 0, 1) := by decide +kernel
theorem dX9_fault_1 : decode cX9_fault 1 = .ok (.invokevirtual 87, 3) := by decide +kernel
theorem dX9_fault_4 : decode cX9_fault 4 = .ok (.ireturn, 1) := by decide +kernel
theorem dX9_contracts_0 : decode cX9_contracts 0 = .ok (.aload_n 0, 1) := by decide +kernel
theorem dX9_contracts_1 : decode cX9_contracts 1 = .ok (.invokevirtual 87, 3) := by decide +kernel
theorem dX9_contracts_4 : decode cX9_contracts 4 = .ok (.aload_n 0, 1) := by decide +kernel
theorem dX9_contracts_5 : decode cX9_contracts 5 = .ok (.getfield 59, 3) := by decide +kernel
theorem dX9_contracts_8 : decode cX9_contracts 8 = .ok (.if_icmp .lt 11, 3) := by decide +kernel
theorem dX9_contracts_11 : decode cX9_contracts 11 = .ok (.aload_n 0, 1) := by decide +kernel
theorem dX9_contracts_12 : decode cX9_contracts 12 = .ok (.getfield 65, 3) := by decide +kernel
theorem dX9_contracts_15 : decode cX9_contracts 15 = .ok (.iconst 4, 1) := by decide +kernel
theorem dX9_contracts_16 : decode cX9_contracts 16 = .ok (.if_icmp .eq 6, 3) := by decide +kernel
theorem dX9_contracts_19 : decode cX9_contracts 19 = .ok (.bipush (-103), 2) := by decide +kernel
theorem dX9_contracts_21 : decode cX9_contracts 21 = .ok (.ireturn, 1) := by decide +kernel
theorem dX9_contracts_22 : decode cX9_contracts 22 = .ok (.aload_n 0, 1) := by decide +kernel
theorem dX9_contracts_23 : decode cX9_contracts 23 = .ok (.aload_n 0, 1) := by decide +kernel
theorem dX9_contracts_24 : decode cX9_contracts 24 = .ok (.getfield 62, 3) := by decide +kernel
theorem dX9_contracts_27 : decode cX9_contracts 27 = .ok (.putfield 91, 3) := by decide +kernel
theorem dX9_contracts_30 : decode cX9_contracts 30 = .ok (.iconst 0, 1) := by decide +kernel
theorem dX9_contracts_31 : decode cX9_contracts 31 = .ok (.istore_n 1, 1) := by decide +kernel
theorem dX9_contracts_32 : decode cX9_contracts 32 = .ok (.iload_n 1, 1) := by decide +kernel
theorem dX9_contracts_33 : decode cX9_contracts 33 = .ok (.iconst 4, 1) := by decide +kernel
theorem dX9_contracts_34 : decode cX9_contracts 34 = .ok (.aload_n 0, 1) := by decide +kernel
