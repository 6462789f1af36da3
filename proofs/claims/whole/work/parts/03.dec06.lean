theorem dX9_month_19 : decode cX9_month 19 = .ok (.getfield 94, 3) := by decide +kernel
theorem dX9_month_22 : decode cX9_month 22 = .ok (.invokevirtual 154, 3) := by decide +kernel
theorem dX9_month_25 : decode cX9_month 25 = .ok (.istore_n 1, 1) := by decide +kernel
theorem dX9_month_26 : decode cX9_month 26 = .ok (.iconst 0, 1) := by decide +kernel
theorem dX9_month_27 : decode cX9_month 27 = .ok (.istore_n 2, 1) := by decide +kernel
theorem dX9_month_28 : decode cX9_month 28 = .ok (.iload_n 2, 1) := by decide +kernel
theorem dX9_month_29 : decode cX9_month 29 = .ok (.aload_n 0, 1) := by decide +kernel
theorem dX9_month_30 : decode cX9_month 30 = .ok (.getfield 113, 3) := by decide +kernel
theorem dX9_month_33 : decode cX9_month 33 = .ok (.if_icmp .ge 25, 3) := by decide +kernel
theorem dX9_month_36 : decode cX9_month 36 = .ok (.aload_n 0, 1) := by decide +kernel
theorem dX9_month_37 : decode cX9_month 37 = .ok (.getfield 25, 3) := by decide +kernel
theorem dX9_month_40 : decode cX9_month 40 = .ok (.iconst 4, 1) := by decide +kernel
theorem dX9_month_41 : decode cX9_month 41 = .ok (.iload_n 2, 1) := by decide +kernel
theorem dX9_month_42 : decode cX9_month 42 = .ok (.imul, 1) := by decide +kernel
theorem dX9_month_43 : decode cX9_month 43 = .ok (.iconst 2, 1) := by decide +kernel
theorem dX9_month_44 : decode cX9_month 44 = .ok (.iadd, 1) := by decide +kernel
theorem dX9_month_45 : decode cX9_month 45 = .ok (.aload_n 0, 1) := by decide +kernel
theorem dX9_month_46 : decode cX9_month 46 = .ok (.getfield 28, 3) := by decide +kernel
theorem dX9_month_49 : decode cX9_month 49 = .ok (.iload_n 2, 1) := by decide +kernel
theorem dX9_month_50 : decode cX9_month 50 = .ok (.iaload, 1) := by decide +kernel
theorem dX9_month_51 : decode cX9_month 51 = .ok (.iastore, 1) := by decide +kernel
theorem dX9_month_52 : decode cX9_month 52 = .ok (.iinc 2 1, 3) := by decide +kernel
theorem dX9_month_55 : decode cX9_month 55 = .ok (.goto (-27), 3) := by decide +kernel
theorem dX9_month_58 : decode cX9_month 58 = .ok (.iconst 0, 1) := by decide +kernel
theorem dX9_month_59 : decode cX9_month 59 = .ok (.istore_n 2, 1) := by decide +kernel
theorem dX9_month_60 : decode cX9_month 60 = .ok (.iload_n 2, 1) := by decide +kernel
theorem dX9_month_61 : decode cX9_month 61 = .ok (.bipush 8, 2) := by decide +kernel
theorem dX9_month_63 : decode cX9_month 63 = .ok (.if_icmp .ge 21, 3) := by decide +kernel
theorem dX9_month_66 : decode cX9_month 66 = .ok (.aload_n 0, 1) := by decide +kernel
theorem dX9_month_67 : decode cX9_month 67 = .ok (.getfield 22, 3) := by decide +kernel
theorem dX9_month_70 : decode cX9_month 70 = .ok (.iload_n 2, 1) := by decide +kernel
theorem dX9_month_71 : decode cX9_month 71 = .ok (.aload_n 0, 1) := by decide +kernel
theorem dX9_month_72 : decode cX9_month 72 = .ok (.getfield 31, 3) := by decide +kernel
theorem dX9_month_75 : decode cX9_month 75 = .ok (.iload_n 2, 1) := by decide +kernel
theorem dX9_month_76 : decode cX9_month 76 = .ok (.iaload, 1) := by decide +kernel
theorem dX9_month_77 : decode cX9_month 77 = .ok (.iastore, 1) := by decide +kernel
theorem dX9_month_78 : decode cX9_month 78 = .ok (.iinc 2 1, 3) := by decide +kernel
theorem dX9_month_81 : decode cX9_month 81 = .ok (.goto (-21), 3) := by decide +kernel
theorem dX9_month_84 : decode cX9_month 84 = .ok (.aload_n 0, 1) := by decide +kernel
theorem dX9_month_85 : decode cX9_month 85 = .ok (.dup, 1) := by decide +kernel
theorem dX9_month_86 : decode cX9_month 86 = .ok (.getfield 157, 3) := by decide +kernel
theorem dX9_month_89 : decode cX9_month 89 = .ok (.iconst 1, 1) := by decide +kernel
theorem dX9_month_90 : decode cX9_month 90 = .ok (.iadd, 1) := by decide +kernel
theorem dX9_month_91 : decode cX9_month 91 = .ok (.putfield 157, 3) := by decide +kernel
theorem dX9_month_94 : decode cX9_month 94 = .ok (.iconst 0, 1) := by decide +kernel
theorem dX9_month_95 : decode cX9_month 95 = .ok (.istore_n 2, 1) := by decide +kernel
theorem dX9_month_96 : decode cX9_month 96 = .ok (.iload_n 2, 1) := by decide +kernel
theorem dX9_month_97 : decode cX9_month 97 = .ok (.aload_n 0, 1) := by decide +kernel
theorem dX9_month_98 : decode cX9_month 98 = .ok (.getfield 91, 3) := by decide +kernel
theorem dX9_month_101 : decode cX9_month 101 = .ok (.if_icmp .ge 44, 3) := by decide +kernel
theorem dX9_month_104 : decode cX9_month 104 = .ok (.aload_n 0, 1) := by decide +kernel
theorem dX9_month_105 : decode cX9_month 105 = .ok (.dup, 1) := by decide +kernel
theorem dX9_month_106 : decode cX9_month 106 = .ok (.getfield 160, 3) := by decide +kernel
theorem dX9_month_109 : decode cX9_month 109 = .ok (.aload_n 0, 1) := by decide +kernel
theorem dX9_month_110 : decode cX9_month 110 = .ok (.getfield 94, 3) := by decide +kernel
theorem dX9_month_113 : decode cX9_month 113 = .ok (.iload_n 2, 1) := by decide +kernel
theorem dX9_month_114 : decode cX9_month 114 = .ok (.ishr, 1) := by decide +kernel
theorem dX9_month_115 : decode cX9_month 115 = .ok (.iconst 1, 1) := by decide +kernel
theorem dX9_month_116 : decode cX9_month 116 = .ok (.iand, 1) := by decide +kernel
theorem dX9_month_117 : decode cX9_month 117 = .ok (.iconst 1, 1) := by decide +kernel
theorem dX9_month_118 : decode cX9_month 118 = .ok (.if_icmp .ne 16, 3) := by decide +kernel
theorem dX9_month_121 : decode cX9_month 121 = .ok (.aload_n 0, 1) := by decide +kernel
theorem dX9_month_122 : decode cX9_month 122 = .ok (.getfield 16, 3) := by decide +kernel
theorem dX9_month_125 : decode cX9_month 125 = .ok (.iconst 4, 1) := by decide +kernel
theorem dX9_month_126 : decode cX9_month 126 = .ok (.iload_n 2, 1) := by decide +kernel
theorem dX9_month_127 : decode cX9_month 127 = .ok (.imul, 1) := by decide +kernel
theorem dX9_month_128 : decode cX9_month 128 = .ok (.iconst 3, 1) := by decide +kernel
theorem dX9_month_129 : decode cX9_month 129 = .ok (.iadd, 1) := by decide +kernel
theorem dX9_month_130 : decode cX9_month 130 = .ok (.iaload, 1) := by decide +kernel
theorem dX9_month_131 : decode cX9_month 131 = .ok (.goto 4, 3) := by decide +kernel
theorem dX9_month_134 : decode cX9_month 134 = .ok (.iconst 0, 1) := by decide +kernel
theorem dX9_month_135 : decode cX9_month 135 = .ok (.iadd, 1) := by decide +kernel
theorem dX9_month_136 : decode cX9_month 136 = .ok (.putfield 160, 3) := by decide +kernel
theorem dX9_month_139 : decode cX9_month 139 = .ok (.iinc 2 1, 3) := by decide +kernel
theorem dX9_month_142 : decode cX9_month 142 = .ok (.goto (-46), 3) := by decide +kernel
theorem dX9_month_145 : decode cX9_month 145 = .ok (.iload_n 1, 1) := by decide +kernel
theorem dX9_month_146 : decode cX9_month 146 = .ok (.ireturn, 1) := by decide +kernel
theorem dX9_where_0 : decode cX9_where 0 = .ok (.aload_n 0, 1) := by decide +kernel
theorem dX9_where_1 : decode cX9_where 1 = .ok (.iload_n 1, 1) := by decide +kernel
theorem dX9_where_2 : decode cX9_where 2 = .ok (.invokevirtual 124, 3) := by decide +kernel
theorem dX9_where_5 : decode cX9_where 5 = .ok (.ifCond .ne 6, 3) := by decide +kernel
theorem dX9_where_8 : decode cX9_where 8 = .ok (.bipush (-101), 2) := by decide +kernel
theorem dX9_where_10 : decode cX9_where 10 = .ok (.ireturn, 1) := by decide +kernel
theorem dX9_where_11 : decode cX9_where 11 = .ok (.iload_n 2, 1) := by decide +kernel
theorem dX9_where_12 : decode cX9_where 12 = .ok (.i2l, 1) := by decide +kernel
theorem dX9_where_13 : decode cX9_where 13 = .ok (.lconst 0, 1) := by decide +kernel
theorem dX9_where_14 : decode cX9_where 14 = .ok (.ldc2_w 163, 3) := by decide +kernel
theorem dX9_where_17 : decode cX9_where 17 = .ok (.invokestatic 70, 3) := by decide +kernel
theorem dX9_where_20 : decode cX9_where 20 = .ok (.ifCond .ne 6, 3) := by decide +kernel
theorem dX9_where_23 : decode cX9_where 23 = .ok (.bipush (-102), 2) := by decide +kernel
theorem dX9_where_25 : decode cX9_where 25 = .ok (.ireturn, 1) := by decide +kernel
theorem dX9_where_26 : decode cX9_where 26 = .ok (.aload_n 0, 1) := by decide +kernel
theorem dX9_where_27 : decode cX9_where 27 = .ok (.invokevirtual 147, 3) := by decide +kernel
theorem dX9_where_30 : decode cX9_where 30 = .ok (.ifCond .eq 6, 3) := by decide +kernel
theorem dX9_where_33 : decode cX9_where 33 = .ok (.bipush (-103), 2) := by decide +kernel
theorem dX9_where_35 : decode cX9_where 35 = .ok (.ireturn, 1) := by decide +kernel
theorem dX9_where_36 : decode cX9_where 36 = .ok (.aload_n 0, 1) := by decide +kernel
theorem dX9_where_37 : decode cX9_where 37 = .ok (.invokevirtual 151, 3) := by decide +kernel
theorem dX9_where_40 : decode cX9_where 40 = .ok (.iconst 0, 1) := by decide +kernel
theorem dX9_where_41 : decode cX9_where 41 = .ok (.istore_n 3, 1) := by decide +kernel
theorem dX9_where_42 : decode cX9_where 42 = .ok (.iload_n 3, 1) := by decide +kernel
theorem dX9_where_43 : decode cX9_where 43 = .ok (.iload_n 2, 1) := by decide +kernel
theorem dX9_where_44 : decode cX9_where 44 = .ok (.if_icmp .ge 22, 3) := by decide +kernel
theorem dX9_where_47 : decode cX9_where 47 = .ok (.aload_n 0, 1) := by decide +kernel
theorem dX9_where_48 : decode cX9_where 48 = .ok (.sipush 255, 3) := by decide +kernel
theorem dX9_where_51 : decode cX9_where 51 = .ok (.aload_n 0, 1) := by decide +kernel
theorem dX9_where_52 : decode cX9_where 52 = .ok (.getfield 94, 3) := by decide +kernel
theorem dX9_where_55 : decode cX9_where 55 = .ok (.invokevirtual 154, 3) := by decide +kernel
theorem dX9_where_58 : decode cX9_where 58 = .ok (.istore 4, 2) := by decide +kernel
theorem dX9_where_60 : decode cX9_where 60 = .ok (.iinc 3 1, 3) := by decide +kernel
theorem dX9_where_63 : decode cX9_where 63 = .ok (.goto (-21), 3) := by decide +kernel
theorem dX9_where_66 : decode cX9_where 66 = .ok (.aload_n 0, 1) := by decide +kernel
theorem dX9_where_67 : decode cX9_where 67 = .ok (.getfield 28, 3) := by decide +kernel
theorem dX9_where_70 : decode cX9_where 70 = .ok (.iload_n 1, 1) := by decide +kernel
theorem dX9_where_71 : decode cX9_where 71 = .ok (.iaload, 1) := by decide +kernel
theorem dX9_where_72 : decode cX9_where 72 = .ok (.ireturn, 1) := by decide +kernel
theorem dX9_term_0 : decode cX9_term 0 = .ok (.lload_n 0, 1) := by decide +kernel
theorem dX9_term_1 : decode cX9_term 1 = .ok (.lstore 5, 2) := by decide +kernel
theorem dX9_term_3 : decode cX9_term 3 = .ok (.lload_n 2, 1) := by decide +kernel
theorem dX9_term_4 : decode cX9_term 4 = .ok (.lstore 7, 2) := by decide +kernel
theorem dX9_term_6 : decode cX9_term 6 = .ok (.lload 5, 2) := by decide +kernel
theorem dX9_term_8 : decode cX9_term 8 = .ok (.lconst 0, 1) := by decide +kernel
theorem dX9_term_9 : decode cX9_term 9 = .ok (.lcmp, 1) := by decide +kernel
theorem dX9_term_10 : decode cX9_term 10 = .ok (.ifCond .eq 21, 3) := by decide +kernel
theorem dX9_term_13 : decode cX9_term 13 = .ok (.lload 7, 2) := by decide +kernel
theorem dX9_term_15 : decode cX9_term 15 = .ok (.lload 5, 2) := by decide +kernel
theorem dX9_term_17 : decode cX9_term 17 = .ok (.lrem, 1) := by decide +kernel
theorem dX9_term_18 : decode cX9_term 18 = .ok (.lstore 9, 2) := by decide +kernel
theorem dX9_term_20 : decode cX9_term 20 = .ok (.lload 5, 2) := by decide +kernel
theorem dX9_term_22 : decode cX9_term 22 = .ok (.lstore 7, 2) := by decide +kernel
theorem dX9_term_24 : decode cX9_term 24 = .ok (.lload 9, 2) := by decide +kernel
theorem dX9_term_26 : decode cX9_term 26 = .ok (.lstore 5, 2) := by decide +kernel
theorem dX9_term_28 : decode cX9_term 28 = .ok (.goto (-22), 3) := by decide +kernel
theorem dX9_term_31 : decode cX9_term 31 = .ok (.iload 4, 2) := by decide +kernel
theorem dX9_term_33 : decode cX9_term 33 = .ok (.ifCond .ne 10, 3) := by decide +kernel
theorem dX9_term_36 : decode cX9_term 36 = .ok (.lload_n 0, 1) := by decide +kernel
theorem dX9_term_37 : decode cX9_term 37 = .ok (.lload 7, 2) := by decide +kernel
theorem dX9_term_39 : decode cX9_term 39 = .ok (.ldiv, 1) := by decide +kernel
theorem dX9_term_40 : decode cX9_term 40 = .ok (.goto 7, 3) := by decide +kernel
theorem dX9_term_43 : decode cX9_term 43 = .ok (.lload_n 2, 1) := by decide +kernel
theorem dX9_term_44 : decode cX9_term 44 = .ok (.lload 7, 2) := by decide +kernel
theorem dX9_term_46 : decode cX9_term 46 = .ok (.ldiv, 1) := by decide +kernel
theorem dX9_term_47 : decode cX9_term 47 = .ok (.lreturn, 1) := by decide +kernel
theorem dX9_chance_0 : decode cX9_chance 0 = .ok (.aload_n 0, 1) := by decide +kernel
theorem dX9_chance_1 : decode cX9_chance 1 = .ok (.iload_n 1, 1) := by decide +kernel
theorem dX9_chance_2 : decode cX9_chance 2 = .ok (.invokevirtual 124, 3) := by decide +kernel
theorem dX9_chance_5 : decode cX9_chance 5 = .ok (.ifCond .eq 10, 3) := by decide +kernel
theorem dX9_chance_8 : decode cX9_chance 8 = .ok (.iload_n 3, 1) := by decide +kernel
theorem dX9_chance_9 : decode cX9_chance 9 = .ok (.invokestatic 116, 3) := by decide +kernel
theorem dX9_chance_12 : decode cX9_chance 12 = .ok (.ifCond .ne 7, 3) := by decide +kernel
theorem dX9_chance_15 : decode cX9_chance 15 = .ok (.ldc2_w 165, 3) := by decide +kernel
theorem dX9_chance_18 : decode cX9_chance 18 = .ok (.lreturn, 1) := by decide +kernel
theorem dX9_chance_19 : decode cX9_chance 19 = .ok (.iload_n 2, 1) := by decide +kernel
theorem dX9_chance_20 : decode cX9_chance 20 = .ok (.i2l, 1) := by decide +kernel
theorem dX9_chance_21 : decode cX9_chance 21 = .ok (.lconst 1, 1) := by decide +kernel
theorem dX9_chance_22 : decode cX9_chance 22 = .ok (.ldc2_w 167, 3) := by decide +kernel
theorem dX9_chance_25 : decode cX9_chance 25 = .ok (.invokestatic 70, 3) := by decide +kernel
theorem dX9_chance_28 : decode cX9_chance 28 = .ok (.ifCond .eq 14, 3) := by decide +kernel
theorem dX9_chance_31 : decode cX9_chance 31 = .ok (.iload 4, 2) := by decide +kernel
theorem dX9_chance_33 : decode cX9_chance 33 = .ok (.i2l, 1) := by decide +kernel
theorem dX9_chance_34 : decode cX9_chance 34 = .ok (.lconst 0, 1) := by decide +kernel
theorem dX9_chance_35 : decode cX9_chance 35 = .ok (.lconst 1, 1) := by decide +kernel
theorem dX9_chance_36 : decode cX9_chance 36 = .ok (.invokestatic 70, 3) := by decide +kernel
theorem dX9_chance_39 : decode cX9_chance 39 = .ok (.ifCond .ne 7, 3) := by decide +kernel
theorem dX9_chance_42 : decode cX9_chance 42 = .ok (.ldc2_w 169, 3) := by decide +kernel
theorem dX9_chance_45 : decode cX9_chance 45 = .ok (.lreturn, 1) := by decide +kernel
theorem dX9_chance_46 : decode cX9_chance 46 = .ok (.aload_n 0, 1) := by decide +kernel
theorem dX9_chance_47 : decode cX9_chance 47 = .ok (.invokevirtual 147, 3) := by decide +kernel
theorem dX9_chance_50 : decode cX9_chance 50 = .ok (.ifCond .eq 7, 3) := by decide +kernel
theorem dX9_chance_53 : decode cX9_chance 53 = .ok (.ldc2_w 171, 3) := by decide +kernel
theorem dX9_chance_56 : decode cX9_chance 56 = .ok (.lreturn, 1) := by decide +kernel
theorem dX9_chance_57 : decode cX9_chance 57 = .ok (.aload_n 0, 1) := by decide +kernel
theorem dX9_chance_58 : decode cX9_chance 58 = .ok (.invokevirtual 151, 3) := by decide +kernel
theorem dX9_chance_61 : decode cX9_chance 61 = .ok (.iconst 0, 1) := by decide +kernel
theorem dX9_chance_62 : decode cX9_chance 62 = .ok (.istore 5, 2) := by decide +kernel
theorem dX9_chance_64 : decode cX9_chance 64 = .ok (.iload 5, 2) := by decide +kernel
theorem dX9_chance_66 : decode cX9_chance 66 = .ok (.bipush 8, 2) := by decide +kernel
theorem dX9_chance_68 : decode cX9_chance 68 = .ok (.if_icmp .ge 32, 3) := by decide +kernel
theorem dX9_chance_71 : decode cX9_chance 71 = .ok (.aload_n 0, 1) := by decide +kernel
theorem dX9_chance_72 : decode cX9_chance 72 = .ok (.getfield 34, 3) := by decide +kernel
theorem dX9_chance_75 : decode cX9_chance 75 = .ok (.iload 5, 2) := by decide +kernel
theorem dX9_chance_77 : decode cX9_chance 77 = .ok (.iload 5, 2) := by decide +kernel
theorem dX9_chance_79 : decode cX9_chance 79 = .ok (.aload_n 0, 1) := by decide +kernel
theorem dX9_chance_80 : decode cX9_chance 80 = .ok (.getfield 28, 3) := by decide +kernel
theorem dX9_chance_83 : decode cX9_chance 83 = .ok (.iload_n 1, 1) := by decide +kernel
theorem dX9_chance_84 : decode cX9_chance 84 = .ok (.iaload, 1) := by decide +kernel
theorem dX9_chance_85 : decode cX9_chance 85 = .ok (.if_icmp .ne 7, 3) := by decide +kernel
theorem dX9_chance_88 : decode cX9_chance 88 = .ok (.lconst 1, 1) := by decide +kernel
theorem dX9_chance_89 : decode cX9_chance 89 = .ok (.goto 4, 3) := by decide +kernel
theorem dX9_chance_92 : decode cX9_chance 92 = .ok (.lconst 0, 1) := by decide +kernel
theorem dX9_chance_93 : decode cX9_chance 93 = .ok (.lastore, 1) := by decide +kernel
theorem dX9_chance_94 : decode cX9_chance 94 = .ok (.iinc 5 1, 3) := by decide +kernel
theorem dX9_chance_97 : decode cX9_chance 97 = .ok (.goto (-33), 3) := by decide +kernel
theorem dX9_chance_100 : decode cX9_chance 100 = .ok (.lconst 1, 1) := by decide +kernel
theorem dX9_chance_101 : decode cX9_chance 101 = .ok (.lstore 5, 2) := by decide +kernel
theorem dX9_chance_103 : decode cX9_chance 103 = .ok (.iconst 0, 1) := by decide +kernel
theorem dX9_chance_104 : decode cX9_chance 104 = .ok (.istore 7, 2) := by decide +kernel
theorem dX9_chance_106 : decode cX9_chance 106 = .ok (.iload 7, 2) := by decide +kernel
theorem dX9_chance_108 : decode cX9_chance 108 = .ok (.iload_n 2, 1) := by decide +kernel
theorem dX9_chance_109 : decode cX9_chance 109 = .ok (.if_icmp .ge 182, 3) := by decide +kernel
theorem dX9_chance_112 : decode cX9_chance 112 = .ok (.iconst 0, 1) := by decide +kernel
theorem dX9_chance_113 : decode cX9_chance 113 = .ok (.istore 8, 2) := by decide +kernel
theorem dX9_chance_115 : decode cX9_chance 115 = .ok (.iload 8, 2) := by decide +kernel
theorem dX9_chance_117 : decode cX9_chance 117 = .ok (.aload_n 0, 1) := by decide +kernel
theorem dX9_chance_118 : decode cX9_chance 118 = .ok (.getfield 91, 3) := by decide +kernel
theorem dX9_chance_121 : decode cX9_chance 121 = .ok (.if_icmp .ge 123, 3) := by decide +kernel
theorem dX9_chance_124 : decode cX9_chance 124 = .ok (.aload_n 0, 1) := by decide +kernel
theorem dX9_chance_125 : decode cX9_chance 125 = .ok (.iload 8, 2) := by decide +kernel
theorem dX9_chance_127 : decode cX9_chance 127 = .ok (.aload_n 0, 1) := by decide +kernel
theorem dX9_chance_128 : decode cX9_chance 128 = .ok (.getfield 94, 3) := by decide +kernel
theorem dX9_chance_131 : decode cX9_chance 131 = .ok (.invokevirtual 130, 3) := by decide +kernel
theorem dX9_chance_134 : decode cX9_chance 134 = .ok (.istore 9, 2) := by decide +kernel
theorem dX9_chance_136 : decode cX9_chance 136 = .ok (.aload_n 0, 1) := by decide +kernel
theorem dX9_chance_137 : decode cX9_chance 137 = .ok (.iload 8, 2) := by decide +kernel
theorem dX9_chance_139 : decode cX9_chance 139 = .ok (.iload 9, 2) := by decide +kernel
theorem dX9_chance_141 : decode cX9_chance 141 = .ok (.invokevirtual 133, 3) := by decide +kernel
theorem dX9_chance_144 : decode cX9_chance 144 = .ok (.ifCond .eq 22, 3) := by decide +kernel
theorem dX9_chance_147 : decode cX9_chance 147 = .ok (.aload_n 0, 1) := by decide +kernel
theorem dX9_chance_148 : decode cX9_chance 148 = .ok (.getfield 34, 3) := by decide +kernel
theorem dX9_chance_151 : decode cX9_chance 151 = .ok (.iload 9, 2) := by decide +kernel
theorem dX9_chance_153 : decode cX9_chance 153 = .ok (.laload, 1) := by decide +kernel
theorem dX9_chance_154 : decode cX9_chance 154 = .ok (.aload_n 0, 1) := by decide +kernel
theorem dX9_chance_155 : decode cX9_chance 155 = .ok (.getfield 19, 3) := by decide +kernel
theorem dX9_chance_158 : decode cX9_chance 158 = .ok (.iload 8, 2) := by decide +kernel
theorem dX9_chance_160 : decode cX9_chance 160 = .ok (.iaload, 1) := by decide +kernel
theorem dX9_chance_161 : decode cX9_chance 161 = .ok (.i2l, 1) := by decide +kernel
theorem dX9_chance_162 : decode cX9_chance 162 = .ok (.lmul, 1) := by decide +kernel
theorem dX9_chance_163 : decode cX9_chance 163 = .ok (.goto 4, 3) := by decide +kernel
theorem dX9_chance_166 : decode cX9_chance 166 = .ok (.lconst 0, 1) := by decide +kernel
theorem dX9_chance_167 : decode cX9_chance 167 = .ok (.lstore 10, 2) := by decide +kernel
theorem dX9_chance_169 : decode cX9_chance 169 = .ok (.iconst 0, 1) := by decide +kernel
theorem dX9_chance_170 : decode cX9_chance 170 = .ok (.istore 12, 2) := by decide +kernel
theorem dX9_chance_172 : decode cX9_chance 172 = .ok (.iload 12, 2) := by decide +kernel
theorem dX9_chance_174 : decode cX9_chance 174 = .ok (.bipush 8, 2) := by decide +kernel
theorem dX9_chance_176 : decode cX9_chance 176 = .ok (.if_icmp .ge 22, 3) := by decide +kernel
theorem dX9_chance_179 : decode cX9_chance 179 = .ok (.aload_n 0, 1) := by decide +kernel
theorem dX9_chance_180 : decode cX9_chance 180 = .ok (.getfield 34, 3) := by decide +kernel
theorem dX9_chance_183 : decode cX9_chance 183 = .ok (.iload 12, 2) := by decide +kernel
theorem dX9_chance_185 : decode cX9_chance 185 = .ok (.dup2, 1) := by decide +kernel
theorem dX9_chance_186 : decode cX9_chance 186 = .ok (.laload, 1) := by decide +kernel
theorem dX9_chance_187 : decode cX9_chance 187 = .ok (.ldc2_w 111, 3) := by decide +kernel
theorem dX9_chance_190 : decode cX9_chance 190 = .ok (.lmul, 1) := by decide +kernel
theorem dX9_chance_191 : decode cX9_chance 191 = .ok (.lastore, 1) := by decide +kernel
theorem dX9_chance_192 : decode cX9_chance 192 = .ok (.iinc 12 1, 3) := by decide +kernel
theorem dX9_chance_195 : decode cX9_chance 195 = .ok (.goto (-23), 3) := by decide +kernel
theorem dX9_chance_198 : decode cX9_chance 198 = .ok (.aload_n 0, 1) := by decide +kernel
theorem dX9_chance_199 : decode cX9_chance 199 = .ok (.getfield 34, 3) := by decide +kernel
theorem dX9_chance_202 : decode cX9_chance 202 = .ok (.iload 9, 2) := by decide +kernel
theorem dX9_chance_204 : decode cX9_chance 204 = .ok (.dup2, 1) := by decide +kernel
theorem dX9_chance_205 : decode cX9_chance 205 = .ok (.laload, 1) := by decide +kernel
theorem dX9_chance_206 : decode cX9_chance 206 = .ok (.lload 10, 2) := by decide +kernel
theorem dX9_chance_208 : decode cX9_chance 208 = .ok (.lsub, 1) := by decide +kernel
theorem dX9_chance_209 : decode cX9_chance 209 = .ok (.lastore, 1) := by decide +kernel
theorem dX9_chance_210 : decode cX9_chance 210 = .ok (.aload_n 0, 1) := by decide +kernel
theorem dX9_chance_211 : decode cX9_chance 211 = .ok (.getfield 34, 3) := by decide +kernel
theorem dX9_chance_214 : decode cX9_chance 214 = .ok (.aload_n 0, 1) := by decide +kernel
theorem dX9_chance_215 : decode cX9_chance 215 = .ok (.iload 8, 2) := by decide +kernel
theorem dX9_chance_217 : decode cX9_chance 217 = .ok (.aload_n 0, 1) := by decide +kernel
theorem dX9_chance_218 : decode cX9_chance 218 = .ok (.getfield 94, 3) := by decide +kernel
theorem dX9_chance_221 : decode cX9_chance 221 = .ok (.invokevirtual 141, 3) := by decide +kernel
theorem dX9_chance_224 : decode cX9_chance 224 = .ok (.dup2, 1) := by decide +kernel
theorem dX9_chance_225 : decode cX9_chance 225 = .ok (.laload, 1) := by decide +kernel
theorem dX9_chance_226 : decode cX9_chance 226 = .ok (.lload 10, 2) := by decide +kernel
theorem dX9_chance_228 : decode cX9_chance 228 = .ok (.ladd, 1) := by decide +kernel
theorem dX9_chance_229 : decode cX9_chance 229 = .ok (.lastore, 1) := by decide +kernel
theorem dX9_chance_230 : decode cX9_chance 230 = .ok (.lload 5, 2) := by decide +kernel
theorem dX9_chance_232 : decode cX9_chance 232 = .ok (.ldc2_w 111, 3) := by decide +kernel
theorem dX9_chance_235 : decode cX9_chance 235 = .ok (.lmul, 1) := by decide +kernel
theorem dX9_chance_236 : decode cX9_chance 236 = .ok (.lstore 5, 2) := by decide +kernel
theorem dX9_chance_238 : decode cX9_chance 238 = .ok (.iinc 8 1, 3) := by decide +kernel
theorem dX9_chance_241 : decode cX9_chance 241 = .ok (.goto (-126), 3) := by decide +kernel
theorem dX9_chance_244 : decode cX9_chance 244 = .ok (.iconst 0, 1) := by decide +kernel
theorem dX9_chance_245 : decode cX9_chance 245 = .ok (.istore 8, 2) := by decide +kernel
theorem dX9_chance_247 : decode cX9_chance 247 = .ok (.iload 8, 2) := by decide +kernel
theorem dX9_chance_249 : decode cX9_chance 249 = .ok (.bipush 8, 2) := by decide +kernel
theorem dX9_chance_251 : decode cX9_chance 251 = .ok (.if_icmp .ge 34, 3) := by decide +kernel
theorem dX9_chance_254 : decode cX9_chance 254 = .ok (.aload_n 0, 1) := by decide +kernel
theorem dX9_chance_255 : decode cX9_chance 255 = .ok (.getfield 31, 3) := by decide +kernel
theorem dX9_chance_258 : decode cX9_chance 258 = .ok (.iload 8, 2) := by decide +kernel
theorem dX9_chance_260 : decode cX9_chance 260 = .ok (.dup2, 1) := by decide +kernel
theorem dX9_chance_261 : decode cX9_chance 261 = .ok (.iaload, 1) := by decide +kernel
theorem dX9_chance_262 : decode cX9_chance 262 = .ok (.aload_n 0, 1) := by decide +kernel
theorem dX9_chance_263 : decode cX9_chance 263 = .ok (.getfield 31, 3) := by decide +kernel
theorem dX9_chance_266 : decode cX9_chance 266 = .ok (.iload 8, 2) := by decide +kernel
theorem dX9_chance_268 : decode cX9_chance 268 = .ok (.iaload, 1) := by decide +kernel
theorem dX9_chance_269 : decode cX9_chance 269 = .ok (.ifCond .le 7, 3) := by decide +kernel
theorem dX9_chance_272 : decode cX9_chance 272 = .ok (.iconst 1, 1) := by decide +kernel
theorem dX9_chance_273 : decode cX9_chance 273 = .ok (.goto 4, 3) := by decide +kernel
theorem dX9_chance_276 : decode cX9_chance 276 = .ok (.iconst 0, 1) := by decide +kernel
theorem dX9_chance_277 : decode cX9_chance 277 = .ok (.isub, 1) := by decide +kernel
theorem dX9_chance_278 : decode cX9_chance 278 = .ok (.iastore, 1) := by decide +kernel
theorem dX9_chance_279 : decode cX9_chance 279 = .ok (.iinc 8 1, 3) := by decide +kernel
theorem dX9_chance_282 : decode cX9_chance 282 = .ok (.goto (-35), 3) := by decide +kernel
theorem dX9_chance_285 : decode cX9_chance 285 = .ok (.iinc 7 1, 3) := by decide +kernel
theorem dX9_chance_288 : decode cX9_chance 288 = .ok (.goto (-182), 3) := by decide +kernel
theorem dX9_chance_291 : decode cX9_chance 291 = .ok (.aload_n 0, 1) := by decide +kernel
theorem dX9_chance_292 : decode cX9_chance 292 = .ok (.getfield 34, 3) := by decide +kernel
theorem dX9_chance_295 : decode cX9_chance 295 = .ok (.iload_n 3, 1) := by decide +kernel
theorem dX9_chance_296 : decode cX9_chance 296 = .ok (.laload, 1) := by decide +kernel
theorem dX9_chance_297 : decode cX9_chance 297 = .ok (.lload 5, 2) := by decide +kernel
theorem dX9_chance_299 : decode cX9_chance 299 = .ok (.iload 4, 2) := by decide +kernel
theorem dX9_chance_301 : decode cX9_chance 301 = .ok (.invokestatic 173, 3) := by decide +kernel
theorem dX9_chance_304 : decode cX9_chance 304 = .ok (.lreturn, 1) := by decide +kernel
theorem dX9_ones_0 : decode cX9_ones 0 = .ok (.iconst 0, 1) := by decide +kernel
theorem dX9_ones_1 : decode cX9_ones 1 = .ok (.istore_n 1, 1) := by decide +kernel
theorem dX9_ones_2 : decode cX9_ones 2 = .ok (.iconst 0, 1) := by decide +kernel
theorem dX9_ones_3 : decode cX9_ones 3 = .ok (.istore_n 2, 1) := by decide +kernel
theorem dX9_ones_4 : decode cX9_ones 4 = .ok (.iload_n 2, 1) := by decide +kernel
theorem dX9_ones_5 : decode cX9_ones 5 = .ok (.bipush 8, 2) := by decide +kernel
theorem dX9_ones_7 : decode cX9_ones 7 = .ok (.if_icmp .ge 17, 3) := by decide +kernel
theorem dX9_ones_10 : decode cX9_ones 10 = .ok (.iload_n 1, 1) := by decide +kernel
theorem dX9_ones_11 : decode cX9_ones 11 = .ok (.iload_n 0, 1) := by decide +kernel
theorem dX9_ones_12 : decode cX9_ones 12 = .ok (.iload_n 2, 1) := by decide +kernel
theorem dX9_ones_13 : decode cX9_ones 13 = .ok (.ishr, 1) := by decide +kernel
theorem dX9_ones_14 : decode cX9_ones 14 = .ok (.iconst 1, 1) := by decide +kernel
theorem dX9_ones_15 : decode cX9_ones 15 = .ok (.iand, 1) := by decide +kernel
theorem dX9_ones_16 : decode cX9_ones 16 = .ok (.iadd, 1) := by decide +kernel
theorem dX9_ones_17 : decode cX9_ones 17 = .ok (.istore_n 1, 1) := by decide +kernel
theorem dX9_ones_18 : decode cX9_ones 18 = .ok (.iinc 2 1, 3) := by decide +kernel
theorem dX9_ones_21 : decode cX9_ones 21 = .ok (.goto (-17), 3) := by decide +kernel
theorem dX9_ones_24 : decode cX9_ones 24 = .ok (.iload_n 1, 1) := by decide +kernel
theorem dX9_ones_25 : decode cX9_ones 25 = .ok (.ireturn, 1) := by decide +kernel
theorem dX9_inHouse_0 : decode cX9_inHouse 0 = .ok (.iconst 0, 1) := by decide +kernel
theorem dX9_inHouse_1 : decode cX9_inHouse 1 = .ok (.istore_n 2, 1) := by decide +kernel
theorem dX9_inHouse_2 : decode cX9_inHouse 2 = .ok (.iconst 0, 1) := by decide +kernel
theorem dX9_inHouse_3 : decode cX9_inHouse 3 = .ok (.istore_n 3, 1) := by decide +kernel
theorem dX9_inHouse_4 : decode cX9_inHouse 4 = .ok (.iload_n 3, 1) := by decide +kernel
theorem dX9_inHouse_5 : decode cX9_inHouse 5 = .ok (.aload_n 0, 1) := by decide +kernel
theorem dX9_inHouse_6 : decode cX9_inHouse 6 = .ok (.getfield 113, 3) := by decide +kernel
theorem dX9_inHouse_9 : decode cX9_inHouse 9 = .ok (.if_icmp .ge 34, 3) := by decide +kernel
theorem dX9_inHouse_12 : decode cX9_inHouse 12 = .ok (.iload_n 2, 1) := by decide +kernel
theorem dX9_inHouse_13 : decode cX9_inHouse 13 = .ok (.aload_n 0, 1) := by decide +kernel
theorem dX9_inHouse_14 : decode cX9_inHouse 14 = .ok (.getfield 28, 3) := by decide +kernel
theorem dX9_inHouse_17 : decode cX9_inHouse 17 = .ok (.iload_n 3, 1) := by decide +kernel
theorem dX9_inHouse_18 : decode cX9_inHouse 18 = .ok (.iaload, 1) := by decide +kernel
theorem dX9_inHouse_19 : decode cX9_inHouse 19 = .ok (.iload_n 1, 1) := by decide +kernel
theorem dX9_inHouse_20 : decode cX9_inHouse 20 = .ok (.if_icmp .ne 14, 3) := by decide +kernel
theorem dX9_inHouse_23 : decode cX9_inHouse 23 = .ok (.aload_n 0, 1) := by decide +kernel
theorem dX9_inHouse_24 : decode cX9_inHouse 24 = .ok (.getfield 25, 3) := by decide +kernel
theorem dX9_inHouse_27 : decode cX9_inHouse 27 = .ok (.iconst 4, 1) := by decide +kernel
theorem dX9_inHouse_28 : decode cX9_inHouse 28 = .ok (.iload_n 3, 1) := by decide +kernel
theorem dX9_inHouse_29 : decode cX9_inHouse 29 = .ok (.imul, 1) := by decide +kernel
theorem dX9_inHouse_30 : decode cX9_inHouse 30 = .ok (.iaload, 1) := by decide +kernel
theorem dX9_inHouse_31 : decode cX9_inHouse 31 = .ok (.goto 4, 3) := by decide +kernel
theorem dX9_inHouse_34 : decode cX9_inHouse 34 = .ok (.iconst 0, 1) := by decide +kernel
theorem dX9_inHouse_35 : decode cX9_inHouse 35 = .ok (.iadd, 1) := by decide +kernel
theorem dX9_inHouse_36 : decode cX9_inHouse 36 = .ok (.istore_n 2, 1) := by decide +kernel
theorem dX9_inHouse_37 : decode cX9_inHouse 37 = .ok (.iinc 3 1, 3) := by decide +kernel
theorem dX9_inHouse_40 : decode cX9_inHouse 40 = .ok (.goto (-36), 3) := by decide +kernel
theorem dX9_inHouse_43 : decode cX9_inHouse 43 = .ok (.iload_n 2, 1) := by decide +kernel
theorem dX9_inHouse_44 : decode cX9_inHouse 44 = .ok (.ireturn, 1) := by decide +kernel
theorem dX9_whomOf_0 : decode cX9_whomOf 0 = .ok (.iconst 0, 1) := by decide +kernel
theorem dX9_whomOf_1 : decode cX9_whomOf 1 = .ok (.istore 4, 2) := by decide +kernel
theorem dX9_whomOf_3 : decode cX9_whomOf 3 = .ok (.iconst 0, 1) := by decide +kernel
theorem dX9_whomOf_4 : decode cX9_whomOf 4 = .ok (.istore 5, 2) := by decide +kernel
theorem dX9_whomOf_6 : decode cX9_whomOf 6 = .ok (.iload 5, 2) := by decide +kernel
theorem dX9_whomOf_8 : decode cX9_whomOf 8 = .ok (.aload_n 0, 1) := by decide +kernel
theorem dX9_whomOf_9 : decode cX9_whomOf 9 = .ok (.getfield 91, 3) := by decide +kernel
theorem dX9_whomOf_12 : decode cX9_whomOf 12 = .ok (.if_icmp .ge 37, 3) := by decide +kernel
theorem dX9_whomOf_15 : decode cX9_whomOf 15 = .ok (.iload 4, 2) := by decide +kernel
theorem dX9_whomOf_17 : decode cX9_whomOf 17 = .ok (.aload_n 0, 1) := by decide +kernel
theorem dX9_whomOf_18 : decode cX9_whomOf 18 = .ok (.getfield 16, 3) := by decide +kernel
theorem dX9_whomOf_21 : decode cX9_whomOf 21 = .ok (.iconst 4, 1) := by decide +kernel
theorem dX9_whomOf_22 : decode cX9_whomOf 22 = .ok (.iload 5, 2) := by decide +kernel
theorem dX9_whomOf_24 : decode cX9_whomOf 24 = .ok (.imul, 1) := by decide +kernel
theorem dX9_whomOf_25 : decode cX9_whomOf 25 = .ok (.iconst 1, 1) := by decide +kernel
theorem dX9_whomOf_26 : decode cX9_whomOf 26 = .ok (.iadd, 1) := by decide +kernel
theorem dX9_whomOf_27 : decode cX9_whomOf 27 = .ok (.iaload, 1) := by decide +kernel
theorem dX9_whomOf_28 : decode cX9_whomOf 28 = .ok (.iload_n 1, 1) := by decide +kernel
theorem dX9_whomOf_29 : decode cX9_whomOf 29 = .ok (.if_icmp .ne 10, 3) := by decide +kernel
theorem dX9_whomOf_32 : decode cX9_whomOf 32 = .ok (.iconst 1, 1) := by decide +kernel
theorem dX9_whomOf_33 : decode cX9_whomOf 33 = .ok (.iload 5, 2) := by decide +kernel
theorem dX9_whomOf_35 : decode cX9_whomOf 35 = .ok (.ishl, 1) := by decide +kernel
theorem dX9_whomOf_36 : decode cX9_whomOf 36 = .ok (.goto 4, 3) := by decide +kernel
theorem dX9_whomOf_39 : decode cX9_whomOf 39 = .ok (.iconst 0, 1) := by decide +kernel
theorem dX9_whomOf_40 : decode cX9_whomOf 40 = .ok (.ior, 1) := by decide +kernel
theorem dX9_whomOf_41 : decode cX9_whomOf 41 = .ok (.istore 4, 2) := by decide +kernel
theorem dX9_whomOf_43 : decode cX9_whomOf 43 = .ok (.iinc 5 1, 3) := by decide +kernel
theorem dX9_whomOf_46 : decode cX9_whomOf 46 = .ok (.goto (-40), 3) := by decide +kernel
theorem dX9_whomOf_49 : decode cX9_whomOf 49 = .ok (.iconst 0, 1) := by decide +kernel
theorem dX9_whomOf_50 : decode cX9_whomOf 50 = .ok (.istore 5, 2) := by decide +kernel
theorem dX9_whomOf_52 : decode cX9_whomOf 52 = .ok (.ldc 177, 2) := by decide +kernel
theorem dX9_whomOf_54 : decode cX9_whomOf 54 = .ok (.istore 6, 2) := by decide +kernel
theorem dX9_whomOf_56 : decode cX9_whomOf 56 = .ok (.iconst 0, 1) := by decide +kernel
theorem dX9_whomOf_57 : decode cX9_whomOf 57 = .ok (.istore 7, 2) := by decide +kernel
theorem dX9_whomOf_59 : decode cX9_whomOf 59 = .ok (.iload 7, 2) := by decide +kernel
theorem dX9_whomOf_61 : decode cX9_whomOf 61 = .ok (.iconst 1, 1) := by decide +kernel
theorem dX9_whomOf_62 : decode cX9_whomOf 62 = .ok (.aload_n 0, 1) := by decide +kernel
theorem dX9_whomOf_63 : decode cX9_whomOf 63 = .ok (.getfield 91, 3) := by decide +kernel
theorem dX9_whomOf_66 : decode cX9_whomOf 66 = .ok (.ishl, 1) := by decide +kernel
theorem dX9_whomOf_67 : decode cX9_whomOf 67 = .ok (.if_icmp .ge 185, 3) := by decide +kernel
theorem dX9_whomOf_70 : decode cX9_whomOf 70 = .ok (.iload 7, 2) := by decide +kernel
theorem dX9_whomOf_72 : decode cX9_whomOf 72 = .ok (.iload 4, 2) := by decide +kernel
theorem dX9_whomOf_74 : decode cX9_whomOf 74 = .ok (.iconst (-1), 1) := by decide +kernel
theorem dX9_whomOf_75 : decode cX9_whomOf 75 = .ok (.ixor, 1) := by decide +kernel
theorem dX9_whomOf_76 : decode cX9_whomOf 76 = .ok (.iand, 1) := by decide +kernel
theorem dX9_whomOf_77 : decode cX9_whomOf 77 = .ok (.ifCond .ne 169, 3) := by decide +kernel
theorem dX9_whomOf_80 : decode cX9_whomOf 80 = .ok (.aload_n 0, 1) := by decide +kernel
theorem dX9_whomOf_81 : decode cX9_whomOf 81 = .ok (.invokevirtual 151, 3) := by decide +kernel
theorem dX9_whomOf_84 : decode cX9_whomOf 84 = .ok (.iconst 0, 1) := by decide +kernel
theorem dX9_whomOf_85 : decode cX9_whomOf 85 = .ok (.istore 8, 2) := by decide +kernel
theorem dX9_whomOf_87 : decode cX9_whomOf 87 = .ok (.iconst 0, 1) := by decide +kernel
theorem dX9_whomOf_88 : decode cX9_whomOf 88 = .ok (.istore 9, 2) := by decide +kernel
theorem dX9_whomOf_90 : decode cX9_whomOf 90 = .ok (.iload 9, 2) := by decide +kernel
theorem dX9_whomOf_92 : decode cX9_whomOf 92 = .ok (.aload_n 0, 1) := by decide +kernel
theorem dX9_whomOf_93 : decode cX9_whomOf 93 = .ok (.getfield 91, 3) := by decide +kernel
theorem dX9_whomOf_96 : decode cX9_whomOf 96 = .ok (.if_icmp .ge 42, 3) := by decide +kernel
theorem dX9_whomOf_99 : decode cX9_whomOf 99 = .ok (.iload 8, 2) := by decide +kernel
theorem dX9_whomOf_101 : decode cX9_whomOf 101 = .ok (.iload 7, 2) := by decide +kernel
theorem dX9_whomOf_103 : decode cX9_whomOf 103 = .ok (.iload 9, 2) := by decide +kernel
theorem dX9_whomOf_105 : decode cX9_whomOf 105 = .ok (.ishr, 1) := by decide +kernel
theorem dX9_whomOf_106 : decode cX9_whomOf 106 = .ok (.iconst 1, 1) := by decide +kernel
theorem dX9_whomOf_107 : decode cX9_whomOf 107 = .ok (.iand, 1) := by decide +kernel
theorem dX9_whomOf_108 : decode cX9_whomOf 108 = .ok (.iconst 1, 1) := by decide +kernel
theorem dX9_whomOf_109 : decode cX9_whomOf 109 = .ok (.if_icmp .ne 19, 3) := by decide +kernel
theorem dX9_whomOf_112 : decode cX9_whomOf 112 = .ok (.iload_n 2, 1) := by decide +kernel
theorem dX9_whomOf_113 : decode cX9_whomOf 113 = .ok (.aload_n 0, 1) := by decide +kernel
theorem dX9_whomOf_114 : decode cX9_whomOf 114 = .ok (.getfield 16, 3) := by decide +kernel
theorem dX9_whomOf_117 : decode cX9_whomOf 117 = .ok (.iconst 4, 1) := by decide +kernel
theorem dX9_whomOf_118 : decode cX9_whomOf 118 = .ok (.iload 9, 2) := by decide +kernel
theorem dX9_whomOf_120 : decode cX9_whomOf 120 = .ok (.imul, 1) := by decide +kernel
theorem dX9_whomOf_121 : decode cX9_whomOf 121 = .ok (.iconst 3, 1) := by decide +kernel
theorem dX9_whomOf_122 : decode cX9_whomOf 122 = .ok (.iadd, 1) := by decide +kernel
theorem dX9_whomOf_123 : decode cX9_whomOf 123 = .ok (.iaload, 1) := by decide +kernel
theorem dX9_whomOf_124 : decode cX9_whomOf 124 = .ok (.imul, 1) := by decide +kernel
theorem dX9_whomOf_125 : decode cX9_whomOf 125 = .ok (.goto 4, 3) := by decide +kernel
theorem dX9_whomOf_128 : decode cX9_whomOf 128 = .ok (.iconst 0, 1) := by decide +kernel
theorem dX9_whomOf_129 : decode cX9_whomOf 129 = .ok (.isub, 1) := by decide +kernel
theorem dX9_whomOf_130 : decode cX9_whomOf 130 = .ok (.istore 8, 2) := by decide +kernel
theorem dX9_whomOf_132 : decode cX9_whomOf 132 = .ok (.iinc 9 1, 3) := by decide +kernel
theorem dX9_whomOf_135 : decode cX9_whomOf 135 = .ok (.goto (-45), 3) := by decide +kernel
theorem dX9_whomOf_138 : decode cX9_whomOf 138 = .ok (.iconst 0, 1) := by decide +kernel
theorem dX9_whomOf_139 : decode cX9_whomOf 139 = .ok (.istore 9, 2) := by decide +kernel
theorem dX9_whomOf_141 : decode cX9_whomOf 141 = .ok (.iload 9, 2) := by decide +kernel
theorem dX9_whomOf_143 : decode cX9_whomOf 143 = .ok (.iload_n 2, 1) := by decide +kernel
theorem dX9_whomOf_144 : decode cX9_whomOf 144 = .ok (.if_icmp .ge 30, 3) := by decide +kernel
theorem dX9_whomOf_147 : decode cX9_whomOf 147 = .ok (.aload_n 0, 1) := by decide +kernel
theorem dX9_whomOf_148 : decode cX9_whomOf 148 = .ok (.sipush 255, 3) := by decide +kernel
theorem dX9_whomOf_151 : decode cX9_whomOf 151 = .ok (.aload_n 0, 1) := by decide +kernel
theorem dX9_whomOf_152 : decode cX9_whomOf 152 = .ok (.getfield 94, 3) := by decide +kernel
theorem dX9_whomOf_155 : decode cX9_whomOf 155 = .ok (.iload 4, 2) := by decide +kernel
theorem dX9_whomOf_157 : decode cX9_whomOf 157 = .ok (.iconst (-1), 1) := by decide +kernel
theorem dX9_whomOf_158 : decode cX9_whomOf 158 = .ok (.ixor, 1) := by decide +kernel
theorem dX9_whomOf_159 : decode cX9_whomOf 159 = .ok (.iand, 1) := by decide +kernel
theorem dX9_whomOf_160 : decode cX9_whomOf 160 = .ok (.iload 7, 2) := by decide +kernel
theorem dX9_whomOf_162 : decode cX9_whomOf 162 = .ok (.ior, 1) := by decide +kernel
theorem dX9_whomOf_163 : decode cX9_whomOf 163 = .ok (.invokevirtual 154, 3) := by decide +kernel
theorem dX9_whomOf_166 : decode cX9_whomOf 166 = .ok (.istore 10, 2) := by decide +kernel
theorem dX9_whomOf_168 : decode cX9_whomOf 168 = .ok (.iinc 9 1, 3) := by decide +kernel
theorem dX9_whomOf_171 : decode cX9_whomOf 171 = .ok (.goto (-30), 3) := by decide +kernel
theorem dX9_whomOf_174 : decode cX9_whomOf 174 = .ok (.iload 8, 2) := by decide +kernel
theorem dX9_whomOf_176 : decode cX9_whomOf 176 = .ok (.aload_n 0, 1) := by decide +kernel
theorem dX9_whomOf_177 : decode cX9_whomOf 177 = .ok (.iload_n 1, 1) := by decide +kernel
theorem dX9_whomOf_178 : decode cX9_whomOf 178 = .ok (.invokevirtual 178, 3) := by decide +kernel
theorem dX9_whomOf_181 : decode cX9_whomOf 181 = .ok (.iadd, 1) := by decide +kernel
theorem dX9_whomOf_182 : decode cX9_whomOf 182 = .ok (.istore 8, 2) := by decide +kernel
theorem dX9_whomOf_184 : decode cX9_whomOf 184 = .ok (.iload 8, 2) := by decide +kernel
theorem dX9_whomOf_186 : decode cX9_whomOf 186 = .ok (.iload 6, 2) := by decide +kernel
theorem dX9_whomOf_188 : decode cX9_whomOf 188 = .ok (.if_icmp .gt 23, 3) := by decide +kernel
theorem dX9_whomOf_191 : decode cX9_whomOf 191 = .ok (.iload 8, 2) := by decide +kernel
theorem dX9_whomOf_193 : decode cX9_whomOf 193 = .ok (.iload 6, 2) := by decide +kernel
theorem dX9_whomOf_195 : decode cX9_whomOf 195 = .ok (.if_icmp .ne 20, 3) := by decide +kernel
theorem dX9_whomOf_198 : decode cX9_whomOf 198 = .ok (.iload 7, 2) := by decide +kernel
theorem dX9_whomOf_200 : decode cX9_whomOf 200 = .ok (.invokestatic 181, 3) := by decide +kernel
theorem dX9_whomOf_203 : decode cX9_whomOf 203 = .ok (.iload 5, 2) := by decide +kernel
theorem dX9_whomOf_205 : decode cX9_whomOf 205 = .ok (.invokestatic 181, 3) := by decide +kernel
theorem dX9_whomOf_208 : decode cX9_whomOf 208 = .ok (.if_icmp .ge 7, 3) := by decide +kernel
theorem dX9_whomOf_211 : decode cX9_whomOf 211 = .ok (.iconst 1, 1) := by decide +kernel
theorem dX9_whomOf_212 : decode cX9_whomOf 212 = .ok (.goto 4, 3) := by decide +kernel
theorem dX9_whomOf_215 : decode cX9_whomOf 215 = .ok (.iconst 0, 1) := by decide +kernel
theorem dX9_whomOf_216 : decode cX9_whomOf 216 = .ok (.istore 9, 2) := by decide +kernel
theorem dX9_whomOf_218 : decode cX9_whomOf 218 = .ok (.iload 9, 2) := by decide +kernel
theorem dX9_whomOf_220 : decode cX9_whomOf 220 = .ok (.ifCond .eq 8, 3) := by decide +kernel
theorem dX9_whomOf_223 : decode cX9_whomOf 223 = .ok (.iload 7, 2) := by decide +kernel
theorem dX9_whomOf_225 : decode cX9_whomOf 225 = .ok (.goto 5, 3) := by decide +kernel
theorem dX9_whomOf_228 : decode cX9_whomOf 228 = .ok (.iload 5, 2) := by decide +kernel
theorem dX9_whomOf_230 : decode cX9_whomOf 230 = .ok (.istore 5, 2) := by decide +kernel
theorem dX9_whomOf_232 : decode cX9_whomOf 232 = .ok (.iload 9, 2) := by decide +kernel
theorem dX9_whomOf_234 : decode cX9_whomOf 234 = .ok (.ifCond .eq 8, 3) := by decide +kernel
theorem dX9_whomOf_237 : decode cX9_whomOf 237 = .ok (.iload 8, 2) := by decide +kernel
theorem dX9_whomOf_239 : decode cX9_whomOf 239 = .ok (.goto 5, 3) := by decide +kernel
theorem dX9_whomOf_242 : decode cX9_whomOf 242 = .ok (.iload 6, 2) := by decide +kernel
theorem dX9_whomOf_244 : decode cX9_whomOf 244 = .ok (.istore 6, 2) := by decide +kernel
theorem dX9_whomOf_246 : decode cX9_whomOf 246 = .ok (.iinc 7 1, 3) := by decide +kernel
theorem dX9_whomOf_249 : decode cX9_whomOf 249 = .ok (.goto (-190), 3) := by decide +kernel
theorem dX9_whomOf_252 : decode cX9_whomOf 252 = .ok (.iload_n 3, 1) := by decide +kernel
theorem dX9_whomOf_253 : decode cX9_whomOf 253 = .ok (.ifCond .ne 8, 3) := by decide +kernel
theorem dX9_whomOf_256 : decode cX9_whomOf 256 = .ok (.iload 6, 2) := by decide +kernel
theorem dX9_whomOf_258 : decode cX9_whomOf 258 = .ok (.goto 5, 3) := by decide +kernel
theorem dX9_whomOf_261 : decode cX9_whomOf 261 = .ok (.iload 5, 2) := by decide +kernel
theorem dX9_whomOf_263 : decode cX9_whomOf 263 = .ok (.ireturn, 1) := by decide +kernel
theorem dX9_whom_0 : decode cX9_whom 0 = .ok (.iload_n 1, 1) := by decide +kernel
theorem dX9_whom_1 : decode cX9_whom 1 = .ok (.invokestatic 116, 3) := by decide +kernel
theorem dX9_whom_4 : decode cX9_whom 4 = .ok (.ifCond .ne 6, 3) := by decide +kernel
theorem dX9_whom_7 : decode cX9_whom 7 = .ok (.ldc 184, 2) := by decide +kernel
theorem dX9_whom_9 : decode cX9_whom 9 = .ok (.ireturn, 1) := by decide +kernel
theorem dX9_whom_10 : decode cX9_whom 10 = .ok (.iload_n 2, 1) := by decide +kernel
theorem dX9_whom_11 : decode cX9_whom 11 = .ok (.i2l, 1) := by decide +kernel
theorem dX9_whom_12 : decode cX9_whom 12 = .ok (.lconst 0, 1) := by decide +kernel
theorem dX9_whom_13 : decode cX9_whom 13 = .ok (.ldc2_w 185, 3) := by decide +kernel
theorem dX9_whom_16 : decode cX9_whom 16 = .ok (.invokestatic 70, 3) := by decide +kernel
theorem dX9_whom_19 : decode cX9_whom 19 = .ok (.ifCond .eq 13, 3) := by decide +kernel
theorem dX9_whom_22 : decode cX9_whom 22 = .ok (.iload_n 3, 1) := by decide +kernel
theorem dX9_whom_23 : decode cX9_whom 23 = .ok (.i2l, 1) := by decide +kernel
theorem dX9_whom_24 : decode cX9_whom 24 = .ok (.lconst 0, 1) := by decide +kernel
theorem dX9_whom_25 : decode cX9_whom 25 = .ok (.lconst 1, 1) := by decide +kernel
theorem dX9_whom_26 : decode cX9_whom 26 = .ok (.invokestatic 70, 3) := by decide +kernel
theorem dX9_whom_29 : decode cX9_whom 29 = .ok (.ifCond .ne 6, 3) := by decide +kernel
theorem dX9_whom_32 : decode cX9_whom 32 = .ok (.ldc 187, 2) := by decide +kernel
theorem dX9_whom_34 : decode cX9_whom 34 = .ok (.ireturn, 1) := by decide +kernel
theorem dX9_whom_35 : decode cX9_whom 35 = .ok (.aload_n 0, 1) := by decide +kernel
theorem dX9_whom_36 : decode cX9_whom 36 = .ok (.invokevirtual 147, 3) := by decide +kernel
theorem dX9_whom_39 : decode cX9_whom 39 = .ok (.ifCond .eq 8, 3) := by decide +kernel
theorem dX9_whom_42 : decode cX9_whom 42 = .ok (.ldc 188, 2) := by decide +kernel
theorem dX9_whom_44 : decode cX9_whom 44 = .ok (.goto 10, 3) := by decide +kernel
theorem dX9_whom_47 : decode cX9_whom 47 = .ok (.aload_n 0, 1) := by decide +kernel
theorem dX9_whom_48 : decode cX9_whom 48 = .ok (.iload_n 1, 1) := by decide +kernel
theorem dX9_whom_49 : decode cX9_whom 49 = .ok (.iload_n 2, 1) := by decide +kernel
theorem dX9_whom_50 : decode cX9_whom 50 = .ok (.iload_n 3, 1) := by decide +kernel
theorem dX9_whom_51 : decode cX9_whom 51 = .ok (.invokevirtual 189, 3) := by decide +kernel
theorem dX9_whom_54 : decode cX9_whom 54 = .ok (.ireturn, 1) := by decide +kernel
theorem dX9_stillOf_0 : decode cX9_stillOf 0 = .ok (.aload_n 0, 1) := by decide +kernel
theorem dX9_stillOf_1 : decode cX9_stillOf 1 = .ok (.invokevirtual 151, 3) := by decide +kernel
theorem dX9_stillOf_4 : decode cX9_stillOf 4 = .ok (.iconst 0, 1) := by decide +kernel
theorem dX9_stillOf_5 : decode cX9_stillOf 5 = .ok (.istore_n 1, 1) := by decide +kernel
theorem dX9_stillOf_6 : decode cX9_stillOf 6 = .ok (.iload_n 1, 1) := by decide +kernel
theorem dX9_stillOf_7 : decode cX9_stillOf 7 = .ok (.bipush 61, 2) := by decide +kernel
theorem dX9_stillOf_9 : decode cX9_stillOf 9 = .ok (.if_icmp .ge 25, 3) := by decide +kernel
theorem dX9_stillOf_12 : decode cX9_stillOf 12 = .ok (.aload_n 0, 1) := by decide +kernel
theorem dX9_stillOf_13 : decode cX9_stillOf 13 = .ok (.sipush 255, 3) := by decide +kernel
theorem dX9_stillOf_16 : decode cX9_stillOf 16 = .ok (.aload_n 0, 1) := by decide +kernel
theorem dX9_stillOf_17 : decode cX9_stillOf 17 = .ok (.getfield 94, 3) := by decide +kernel
theorem dX9_stillOf_20 : decode cX9_stillOf 20 = .ok (.invokevirtual 154, 3) := by decide +kernel
theorem dX9_stillOf_23 : decode cX9_stillOf 23 = .ok (.ifCond .ne 5, 3) := by decide +kernel
theorem dX9_stillOf_26 : decode cX9_stillOf 26 = .ok (.iload_n 1, 1) := by decide +kernel
theorem dX9_stillOf_27 : decode cX9_stillOf 27 = .ok (.ireturn, 1) := by decide +kernel
theorem dX9_stillOf_28 : decode cX9_stillOf 28 = .ok (.iinc 1 1, 3) := by decide +kernel
theorem dX9_stillOf_31 : decode cX9_stillOf 31 = .ok (.goto (-25), 3) := by decide +kernel
theorem dX9_stillOf_34 : decode cX9_stillOf 34 = .ok (.iconst (-1), 1) := by decide +kernel
theorem dX9_stillOf_35 : decode cX9_stillOf 35 = .ok (.ireturn, 1) := by decide +kernel
theorem dX9_still_0 : decode cX9_still 0 = .ok (.aload_n 0, 1) := by decide +kernel
theorem dX9_still_1 : decode cX9_still 1 = .ok (.invokevirtual 147, 3) := by decide +kernel
theorem dX9_still_4 : decode cX9_still 4 = .ok (.ifCond .eq 8, 3) := by decide +kernel
theorem dX9_still_7 : decode cX9_still 7 = .ok (.bipush (-103), 2) := by decide +kernel
theorem dX9_still_9 : decode cX9_still 9 = .ok (.goto 7, 3) := by decide +kernel
theorem dX9_still_12 : decode cX9_still 12 = .ok (.aload_n 0, 1) := by decide +kernel
theorem dX9_still_13 : decode cX9_still 13 = .ok (.invokevirtual 193, 3) := by decide +kernel
theorem dX9_still_16 : decode cX9_still 16 = .ok (.ireturn, 1) := by decide +kernel
theorem dX9_seen_0 : decode cX9_seen 0 = .ok (.aload_n 0, 1) := by decide +kernel
theorem dX9_seen_1 : decode cX9_seen 1 = .ok (.iload_n 1, 1) := by decide +kernel
theorem dX9_seen_2 : decode cX9_seen 2 = .ok (.invokevirtual 124, 3) := by decide +kernel
theorem dX9_seen_5 : decode cX9_seen 5 = .ok (.ifCond .eq 15, 3) := by decide +kernel
theorem dX9_seen_8 : decode cX9_seen 8 = .ok (.iload_n 2, 1) := by decide +kernel
theorem dX9_seen_9 : decode cX9_seen 9 = .ok (.iconst (-1), 1) := by decide +kernel
theorem dX9_seen_10 : decode cX9_seen 10 = .ok (.if_icmp .eq 13, 3) := by decide +kernel
theorem dX9_seen_13 : decode cX9_seen 13 = .ok (.iload_n 2, 1) := by decide +kernel
theorem dX9_seen_14 : decode cX9_seen 14 = .ok (.invokestatic 116, 3) := by decide +kernel
theorem dX9_seen_17 : decode cX9_seen 17 = .ok (.ifCond .ne 6, 3) := by decide +kernel
theorem dX9_seen_20 : decode cX9_seen 20 = .ok (.bipush (-101), 2) := by decide +kernel
theorem dX9_seen_22 : decode cX9_seen 22 = .ok (.ireturn, 1) := by decide +kernel
theorem dX9_seen_23 : decode cX9_seen 23 = .ok (.aload_n 0, 1) := by decide +kernel
theorem dX9_seen_24 : decode cX9_seen 24 = .ok (.getfield 25, 3) := by decide +kernel
theorem dX9_seen_27 : decode cX9_seen 27 = .ok (.iconst 4, 1) := by decide +kernel
theorem dX9_seen_28 : decode cX9_seen 28 = .ok (.iload_n 1, 1) := by decide +kernel
theorem dX9_seen_29 : decode cX9_seen 29 = .ok (.imul, 1) := by decide +kernel
theorem dX9_seen_30 : decode cX9_seen 30 = .ok (.iconst 3, 1) := by decide +kernel
theorem dX9_seen_31 : decode cX9_seen 31 = .ok (.iadd, 1) := by decide +kernel
theorem dX9_seen_32 : decode cX9_seen 32 = .ok (.iaload, 1) := by decide +kernel
theorem dX9_seen_33 : decode cX9_seen 33 = .ok (.istore_n 3, 1) := by decide +kernel
theorem dX9_seen_34 : decode cX9_seen 34 = .ok (.aload_n 0, 1) := by decide +kernel
theorem dX9_seen_35 : decode cX9_seen 35 = .ok (.getfield 25, 3) := by decide +kernel
theorem dX9_seen_38 : decode cX9_seen 38 = .ok (.iconst 4, 1) := by decide +kernel
theorem dX9_seen_39 : decode cX9_seen 39 = .ok (.iload_n 1, 1) := by decide +kernel
theorem dX9_seen_40 : decode cX9_seen 40 = .ok (.imul, 1) := by decide +kernel
theorem dX9_seen_41 : decode cX9_seen 41 = .ok (.iconst 3, 1) := by decide +kernel
theorem dX9_seen_42 : decode cX9_seen 42 = .ok (.iadd, 1) := by decide +kernel
theorem dX9_seen_43 : decode cX9_seen 43 = .ok (.iload_n 2, 1) := by decide +kernel
theorem dX9_seen_44 : decode cX9_seen 44 = .ok (.iastore, 1) := by decide +kernel
theorem dX9_seen_45 : decode cX9_seen 45 = .ok (.iload_n 3, 1) := by decide +kernel
theorem dX9_seen_46 : decode cX9_seen 46 = .ok (.ireturn, 1) := by decide +kernel
theorem dX9_isSeenSo_0 : decode cX9_isSeenSo 0 = .ok (.aload_n 0, 1) := by decide +kernel
theorem dX9_isSeenSo_1 : decode cX9_isSeenSo 1 = .ok (.invokevirtual 151, 3) := by decide +kernel
theorem dX9_isSeenSo_4 : decode cX9_isSeenSo 4 = .ok (.aload_n 0, 1) := by decide +kernel
theorem dX9_isSeenSo_5 : decode cX9_isSeenSo 5 = .ok (.iload_n 1, 1) := by decide +kernel
theorem dX9_isSeenSo_6 : decode cX9_isSeenSo 6 = .ok (.aload_n 0, 1) := by decide +kernel
theorem dX9_isSeenSo_7 : decode cX9_isSeenSo 7 = .ok (.getfield 94, 3) := by decide +kernel
theorem dX9_isSeenSo_10 : decode cX9_isSeenSo 10 = .ok (.invokevirtual 154, 3) := by decide +kernel
theorem dX9_isSeenSo_13 : decode cX9_isSeenSo 13 = .ok (.istore_n 2, 1) := by decide +kernel
theorem dX9_isSeenSo_14 : decode cX9_isSeenSo 14 = .ok (.iconst 1, 1) := by decide +kernel
theorem dX9_isSeenSo_15 : decode cX9_isSeenSo 15 = .ok (.istore_n 3, 1) := by decide +kernel
theorem dX9_isSeenSo_16 : decode cX9_isSeenSo 16 = .ok (.iconst 0, 1) := by decide +kernel
theorem dX9_isSeenSo_17 : decode cX9_isSeenSo 17 = .ok (.istore 4, 2) := by decide +kernel
theorem dX9_isSeenSo_19 : decode cX9_isSeenSo 19 = .ok (.iload 4, 2) := by decide +kernel
theorem dX9_isSeenSo_21 : decode cX9_isSeenSo 21 = .ok (.aload_n 0, 1) := by decide +kernel
theorem dX9_isSeenSo_22 : decode cX9_isSeenSo 22 = .ok (.getfield 113, 3) := by decide +kernel
theorem dX9_isSeenSo_25 : decode cX9_isSeenSo 25 = .ok (.if_icmp .ge 55, 3) := by decide +kernel
theorem dX9_isSeenSo_28 : decode cX9_isSeenSo 28 = .ok (.iload_n 3, 1) := by decide +kernel
theorem dX9_isSeenSo_29 : decode cX9_isSeenSo 29 = .ok (.ifCond .eq 43, 3) := by decide +kernel
theorem dX9_isSeenSo_32 : decode cX9_isSeenSo 32 = .ok (.aload_n 0, 1) := by decide +kernel
theorem dX9_isSeenSo_33 : decode cX9_isSeenSo 33 = .ok (.getfield 25, 3) := by decide +kernel
theorem dX9_isSeenSo_36 : decode cX9_isSeenSo 36 = .ok (.iconst 4, 1) := by decide +kernel
theorem dX9_isSeenSo_37 : decode cX9_isSeenSo 37 = .ok (.iload 4, 2) := by decide +kernel
theorem dX9_isSeenSo_39 : decode cX9_isSeenSo 39 = .ok (.imul, 1) := by decide +kernel
theorem dX9_isSeenSo_40 : decode cX9_isSeenSo 40 = .ok (.iconst 3, 1) := by decide +kernel
theorem dX9_isSeenSo_41 : decode cX9_isSeenSo 41 = .ok (.iadd, 1) := by decide +kernel
theorem dX9_isSeenSo_42 : decode cX9_isSeenSo 42 = .ok (.iaload, 1) := by decide +kernel
theorem dX9_isSeenSo_43 : decode cX9_isSeenSo 43 = .ok (.iconst (-1), 1) := by decide +kernel
theorem dX9_isSeenSo_44 : decode cX9_isSeenSo 44 = .ok (.if_icmp .eq 24, 3) := by decide +kernel
theorem dX9_isSeenSo_47 : decode cX9_isSeenSo 47 = .ok (.aload_n 0, 1) := by decide +kernel
theorem dX9_isSeenSo_48 : decode cX9_isSeenSo 48 = .ok (.getfield 25, 3) := by decide +kernel
theorem dX9_isSeenSo_51 : decode cX9_isSeenSo 51 = .ok (.iconst 4, 1) := by decide +kernel
theorem dX9_isSeenSo_52 : decode cX9_isSeenSo 52 = .ok (.iload 4, 2) := by decide +kernel
theorem dX9_isSeenSo_54 : decode cX9_isSeenSo 54 = .ok (.imul, 1) := by decide +kernel
theorem dX9_isSeenSo_55 : decode cX9_isSeenSo 55 = .ok (.iconst 3, 1) := by decide +kernel
theorem dX9_isSeenSo_56 : decode cX9_isSeenSo 56 = .ok (.iadd, 1) := by decide +kernel
theorem dX9_isSeenSo_57 : decode cX9_isSeenSo 57 = .ok (.iaload, 1) := by decide +kernel
theorem dX9_isSeenSo_58 : decode cX9_isSeenSo 58 = .ok (.aload_n 0, 1) := by decide +kernel
theorem dX9_isSeenSo_59 : decode cX9_isSeenSo 59 = .ok (.getfield 28, 3) := by decide +kernel
theorem dX9_isSeenSo_62 : decode cX9_isSeenSo 62 = .ok (.iload 4, 2) := by decide +kernel
theorem dX9_isSeenSo_64 : decode cX9_isSeenSo 64 = .ok (.iaload, 1) := by decide +kernel
theorem dX9_isSeenSo_65 : decode cX9_isSeenSo 65 = .ok (.if_icmp .ne 7, 3) := by decide +kernel
theorem dX9_isSeenSo_68 : decode cX9_isSeenSo 68 = .ok (.iconst 1, 1) := by decide +kernel
theorem dX9_isSeenSo_69 : decode cX9_isSeenSo 69 = .ok (.goto 4, 3) := by decide +kernel
theorem dX9_isSeenSo_72 : decode cX9_isSeenSo 72 = .ok (.iconst 0, 1) := by decide +kernel
theorem dX9_isSeenSo_73 : decode cX9_isSeenSo 73 = .ok (.istore_n 3, 1) := by decide +kernel
theorem dX9_isSeenSo_74 : decode cX9_isSeenSo 74 = .ok (.iinc 4 1, 3) := by decide +kernel
theorem dX9_isSeenSo_77 : decode cX9_isSeenSo 77 = .ok (.goto (-58), 3) := by decide +kernel
theorem dX9_isSeenSo_80 : decode cX9_isSeenSo 80 = .ok (.iload_n 3, 1) := by decide +kernel
theorem dX9_isSeenSo_81 : decode cX9_isSeenSo 81 = .ok (.ireturn, 1) := by decide +kernel
theorem dX9_whoOf_0 : decode cX9_whoOf 0 = .ok (.aload_n 0, 1) := by decide +kernel
theorem dX9_whoOf_1 : decode cX9_whoOf 1 = .ok (.sipush 255, 3) := by decide +kernel
theorem dX9_whoOf_4 : decode cX9_whoOf 4 = .ok (.invokevirtual 196, 3) := by decide +kernel
theorem dX9_whoOf_7 : decode cX9_whoOf 7 = .ok (.ifCond .eq 9, 3) := by decide +kernel
theorem dX9_whoOf_10 : decode cX9_whoOf 10 = .ok (.sipush 256, 3) := by decide +kernel
theorem dX9_whoOf_13 : decode cX9_whoOf 13 = .ok (.goto 4, 3) := by decide +kernel
theorem dX9_whoOf_16 : decode cX9_whoOf 16 = .ok (.iconst 0, 1) := by decide +kernel
theorem dX9_whoOf_17 : decode cX9_whoOf 17 = .ok (.istore_n 1, 1) := by decide +kernel
theorem dX9_whoOf_18 : decode cX9_whoOf 18 = .ok (.iconst 0, 1) := by decide +kernel
theorem dX9_whoOf_19 : decode cX9_whoOf 19 = .ok (.istore_n 2, 1) := by decide +kernel
theorem dX9_whoOf_20 : decode cX9_whoOf 20 = .ok (.iload_n 2, 1) := by decide +kernel
theorem dX9_whoOf_21 : decode cX9_whoOf 21 = .ok (.aload_n 0, 1) := by decide +kernel
theorem dX9_whoOf_22 : decode cX9_whoOf 22 = .ok (.getfield 91, 3) := by decide +kernel
theorem dX9_whoOf_25 : decode cX9_whoOf 25 = .ok (.if_icmp .ge 35, 3) := by decide +kernel
theorem dX9_whoOf_28 : decode cX9_whoOf 28 = .ok (.iload_n 1, 1) := by decide +kernel
theorem dX9_whoOf_29 : decode cX9_whoOf 29 = .ok (.aload_n 0, 1) := by decide +kernel
theorem dX9_whoOf_30 : decode cX9_whoOf 30 = .ok (.sipush 255, 3) := by decide +kernel
theorem dX9_whoOf_33 : decode cX9_whoOf 33 = .ok (.iconst 1, 1) := by decide +kernel
theorem dX9_whoOf_34 : decode cX9_whoOf 34 = .ok (.iload_n 2, 1) := by decide +kernel
theorem dX9_whoOf_35 : decode cX9_whoOf 35 = .ok (.ishl, 1) := by decide +kernel
theorem dX9_whoOf_36 : decode cX9_whoOf 36 = .ok (.iconst (-1), 1) := by decide +kernel
theorem dX9_whoOf_37 : decode cX9_whoOf 37 = .ok (.ixor, 1) := by decide +kernel
theorem dX9_whoOf_38 : decode cX9_whoOf 38 = .ok (.iand, 1) := by decide +kernel
theorem dX9_whoOf_39 : decode cX9_whoOf 39 = .ok (.invokevirtual 196, 3) := by decide +kernel
theorem dX9_whoOf_42 : decode cX9_whoOf 42 = .ok (.ifCond .eq 9, 3) := by decide +kernel
theorem dX9_whoOf_45 : decode cX9_whoOf 45 = .ok (.iconst 1, 1) := by decide +kernel
theorem dX9_whoOf_46 : decode cX9_whoOf 46 = .ok (.iload_n 2, 1) := by decide +kernel
theorem dX9_whoOf_47 : decode cX9_whoOf 47 = .ok (.ishl, 1) := by decide +kernel
theorem dX9_whoOf_48 : decode cX9_whoOf 48 = .ok (.goto 4, 3) := by decide +kernel
theorem dX9_whoOf_51 : decode cX9_whoOf 51 = .ok (.iconst 0, 1) := by decide +kernel
theorem dX9_whoOf_52 : decode cX9_whoOf 52 = .ok (.ior, 1) := by decide +kernel
theorem dX9_whoOf_53 : decode cX9_whoOf 53 = .ok (.istore_n 1, 1) := by decide +kernel
theorem dX9_whoOf_54 : decode cX9_whoOf 54 = .ok (.iinc 2 1, 3) := by decide +kernel
theorem dX9_whoOf_57 : decode cX9_whoOf 57 = .ok (.goto (-37), 3) := by decide +kernel
theorem dX9_whoOf_60 : decode cX9_whoOf 60 = .ok (.iload_n 1, 1) := by decide +kernel
theorem dX9_whoOf_61 : decode cX9_whoOf 61 = .ok (.ireturn, 1) := by decide +kernel
theorem dX9_who_0 : decode cX9_who 0 = .ok (.aload_n 0, 1) := by decide +kernel
theorem dX9_who_1 : decode cX9_who 1 = .ok (.invokevirtual 147, 3) := by decide +kernel
theorem dX9_who_4 : decode cX9_who 4 = .ok (.ifCond .eq 8, 3) := by decide +kernel
theorem dX9_who_7 : decode cX9_who 7 = .ok (.bipush (-103), 2) := by decide +kernel
theorem dX9_who_9 : decode cX9_who 9 = .ok (.goto 7, 3) := by decide +kernel
theorem dX9_who_12 : decode cX9_who 12 = .ok (.aload_n 0, 1) := by decide +kernel
theorem dX9_who_13 : decode cX9_who 13 = .ok (.invokevirtual 199, 3) := by decide +kernel
theorem dX9_who_16 : decode cX9_who 16 = .ok (.ireturn, 1) := by decide +kernel
theorem dX9_owesOf_0 : decode cX9_owesOf 0 = .ok (.iconst 0, 1) := by decide +kernel
theorem dX9_owesOf_1 : decode cX9_owesOf 1 = .ok (.istore_n 3, 1) := by decide +kernel
theorem dX9_owesOf_2 : decode cX9_owesOf 2 = .ok (.iconst 0, 1) := by decide +kernel
theorem dX9_owesOf_3 : decode cX9_owesOf 3 = .ok (.istore 4, 2) := by decide +kernel
theorem dX9_owesOf_5 : decode cX9_owesOf 5 = .ok (.iload 4, 2) := by decide +kernel
theorem dX9_owesOf_7 : decode cX9_owesOf 7 = .ok (.aload_n 0, 1) := by decide +kernel
theorem dX9_owesOf_8 : decode cX9_owesOf 8 = .ok (.getfield 113, 3) := by decide +kernel
theorem dX9_owesOf_11 : decode cX9_owesOf 11 = .ok (.if_icmp .ge 55, 3) := by decide +kernel
theorem dX9_owesOf_14 : decode cX9_owesOf 14 = .ok (.iload_n 3, 1) := by decide +kernel
theorem dX9_owesOf_15 : decode cX9_owesOf 15 = .ok (.aload_n 0, 1) := by decide +kernel
theorem dX9_owesOf_16 : decode cX9_owesOf 16 = .ok (.getfield 25, 3) := by decide +kernel
theorem dX9_owesOf_19 : decode cX9_owesOf 19 = .ok (.iconst 4, 1) := by decide +kernel
theorem dX9_owesOf_20 : decode cX9_owesOf 20 = .ok (.iload 4, 2) := by decide +kernel
theorem dX9_owesOf_22 : decode cX9_owesOf 22 = .ok (.imul, 1) := by decide +kernel
theorem dX9_owesOf_23 : decode cX9_owesOf 23 = .ok (.iconst 2, 1) := by decide +kernel
theorem dX9_owesOf_24 : decode cX9_owesOf 24 = .ok (.iadd, 1) := by decide +kernel
theorem dX9_owesOf_25 : decode cX9_owesOf 25 = .ok (.iaload, 1) := by decide +kernel
theorem dX9_owesOf_26 : decode cX9_owesOf 26 = .ok (.iload_n 1, 1) := by decide +kernel
theorem dX9_owesOf_27 : decode cX9_owesOf 27 = .ok (.if_icmp .ne 30, 3) := by decide +kernel
theorem dX9_owesOf_30 : decode cX9_owesOf 30 = .ok (.aload_n 0, 1) := by decide +kernel
theorem dX9_owesOf_31 : decode cX9_owesOf 31 = .ok (.getfield 25, 3) := by decide +kernel
theorem dX9_owesOf_34 : decode cX9_owesOf 34 = .ok (.iconst 4, 1) := by decide +kernel
theorem dX9_owesOf_35 : decode cX9_owesOf 35 = .ok (.iload 4, 2) := by decide +kernel
theorem dX9_owesOf_37 : decode cX9_owesOf 37 = .ok (.imul, 1) := by decide +kernel
theorem dX9_owesOf_38 : decode cX9_owesOf 38 = .ok (.iconst 1, 1) := by decide +kernel
theorem dX9_owesOf_39 : decode cX9_owesOf 39 = .ok (.iadd, 1) := by decide +kernel
theorem dX9_owesOf_40 : decode cX9_owesOf 40 = .ok (.iaload, 1) := by decide +kernel
