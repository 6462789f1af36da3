theorem dX9_owesOf_41 : decode cX9_owesOf 41 = .ok (.iload_n 2, 1) := by decide +kernel
theorem dX9_owesOf_42 : decode cX9_owesOf 42 = .ok (.if_icmp .ne 15, 3) := by decide +kernel
theorem dX9_owesOf_45 : decode cX9_owesOf 45 = .ok (.aload_n 0, 1) := by decide +kernel
theorem dX9_owesOf_46 : decode cX9_owesOf 46 = .ok (.getfield 25, 3) := by decide +kernel
theorem dX9_owesOf_49 : decode cX9_owesOf 49 = .ok (.iconst 4, 1) := by decide +kernel
theorem dX9_owesOf_50 : decode cX9_owesOf 50 = .ok (.iload 4, 2) := by decide +kernel
theorem dX9_owesOf_52 : decode cX9_owesOf 52 = .ok (.imul, 1) := by decide +kernel
theorem dX9_owesOf_53 : decode cX9_owesOf 53 = .ok (.iaload, 1) := by decide +kernel
theorem dX9_owesOf_54 : decode cX9_owesOf 54 = .ok (.goto 4, 3) := by decide +kernel
theorem dX9_owesOf_57 : decode cX9_owesOf 57 = .ok (.iconst 0, 1) := by decide +kernel
theorem dX9_owesOf_58 : decode cX9_owesOf 58 = .ok (.iadd, 1) := by decide +kernel
theorem dX9_owesOf_59 : decode cX9_owesOf 59 = .ok (.istore_n 3, 1) := by decide +kernel
theorem dX9_owesOf_60 : decode cX9_owesOf 60 = .ok (.iinc 4 1, 3) := by decide +kernel
theorem dX9_owesOf_63 : decode cX9_owesOf 63 = .ok (.goto (-58), 3) := by decide +kernel
theorem dX9_owesOf_66 : decode cX9_owesOf 66 = .ok (.iload_n 3, 1) := by decide +kernel
theorem dX9_owesOf_67 : decode cX9_owesOf 67 = .ok (.ireturn, 1) := by decide +kernel
theorem dX9_owes_0 : decode cX9_owes 0 = .ok (.iload_n 1, 1) := by decide +kernel
theorem dX9_owes_1 : decode cX9_owes 1 = .ok (.invokestatic 116, 3) := by decide +kernel
theorem dX9_owes_4 : decode cX9_owes 4 = .ok (.ifCond .eq 24, 3) := by decide +kernel
theorem dX9_owes_7 : decode cX9_owes 7 = .ok (.iload_n 2, 1) := by decide +kernel
theorem dX9_owes_8 : decode cX9_owes 8 = .ok (.invokestatic 116, 3) := by decide +kernel
theorem dX9_owes_11 : decode cX9_owes 11 = .ok (.ifCond .eq 17, 3) := by decide +kernel
theorem dX9_owes_14 : decode cX9_owes 14 = .ok (.iload_n 1, 1) := by decide +kernel
theorem dX9_owes_15 : decode cX9_owes 15 = .ok (.iload_n 2, 1) := by decide +kernel
theorem dX9_owes_16 : decode cX9_owes 16 = .ok (.if_icmp .eq 12, 3) := by decide +kernel
theorem dX9_owes_19 : decode cX9_owes 19 = .ok (.aload_n 0, 1) := by decide +kernel
theorem dX9_owes_20 : decode cX9_owes 20 = .ok (.iload_n 1, 1) := by decide +kernel
theorem dX9_owes_21 : decode cX9_owes 21 = .ok (.iload_n 2, 1) := by decide +kernel
theorem dX9_owes_22 : decode cX9_owes 22 = .ok (.invokevirtual 202, 3) := by decide +kernel
theorem dX9_owes_25 : decode cX9_owes 25 = .ok (.goto 5, 3) := by decide +kernel
theorem dX9_owes_28 : decode cX9_owes 28 = .ok (.bipush (-101), 2) := by decide +kernel
theorem dX9_owes_30 : decode cX9_owes 30 = .ok (.ireturn, 1) := by decide +kernel
theorem dX9_balance_0 : decode cX9_balance 0 = .ok (.iconst 0, 1) := by decide +kernel
theorem dX9_balance_1 : decode cX9_balance 1 = .ok (.istore_n 2, 1) := by decide +kernel
theorem dX9_balance_2 : decode cX9_balance 2 = .ok (.iconst 0, 1) := by decide +kernel
theorem dX9_balance_3 : decode cX9_balance 3 = .ok (.istore_n 3, 1) := by decide +kernel
theorem dX9_balance_4 : decode cX9_balance 4 = .ok (.iload_n 3, 1) := by decide +kernel
theorem dX9_balance_5 : decode cX9_balance 5 = .ok (.bipush 8, 2) := by decide +kernel
theorem dX9_balance_7 : decode cX9_balance 7 = .ok (.if_icmp .ge 31, 3) := by decide +kernel
theorem dX9_balance_10 : decode cX9_balance 10 = .ok (.iload_n 2, 1) := by decide +kernel
theorem dX9_balance_11 : decode cX9_balance 11 = .ok (.iload_n 1, 1) := by decide +kernel
theorem dX9_balance_12 : decode cX9_balance 12 = .ok (.iload_n 3, 1) := by decide +kernel
theorem dX9_balance_13 : decode cX9_balance 13 = .ok (.ishr, 1) := by decide +kernel
theorem dX9_balance_14 : decode cX9_balance 14 = .ok (.iconst 1, 1) := by decide +kernel
theorem dX9_balance_15 : decode cX9_balance 15 = .ok (.iand, 1) := by decide +kernel
theorem dX9_balance_16 : decode cX9_balance 16 = .ok (.iconst 1, 1) := by decide +kernel
theorem dX9_balance_17 : decode cX9_balance 17 = .ok (.if_icmp .ne 12, 3) := by decide +kernel
theorem dX9_balance_20 : decode cX9_balance 20 = .ok (.aload_n 0, 1) := by decide +kernel
theorem dX9_balance_21 : decode cX9_balance 21 = .ok (.getfield 41, 3) := by decide +kernel
theorem dX9_balance_24 : decode cX9_balance 24 = .ok (.iload_n 3, 1) := by decide +kernel
theorem dX9_balance_25 : decode cX9_balance 25 = .ok (.iaload, 1) := by decide +kernel
theorem dX9_balance_26 : decode cX9_balance 26 = .ok (.goto 4, 3) := by decide +kernel
theorem dX9_balance_29 : decode cX9_balance 29 = .ok (.iconst 0, 1) := by decide +kernel
theorem dX9_balance_30 : decode cX9_balance 30 = .ok (.iadd, 1) := by decide +kernel
theorem dX9_balance_31 : decode cX9_balance 31 = .ok (.istore_n 2, 1) := by decide +kernel
theorem dX9_balance_32 : decode cX9_balance 32 = .ok (.iinc 3 1, 3) := by decide +kernel
theorem dX9_balance_35 : decode cX9_balance 35 = .ok (.goto (-31), 3) := by decide +kernel
theorem dX9_balance_38 : decode cX9_balance 38 = .ok (.iload_n 2, 1) := by decide +kernel
theorem dX9_balance_39 : decode cX9_balance 39 = .ok (.ireturn, 1) := by decide +kernel
theorem dX9_fewestOf_0 : decode cX9_fewestOf 0 = .ok (.iconst 0, 1) := by decide +kernel
theorem dX9_fewestOf_1 : decode cX9_fewestOf 1 = .ok (.istore_n 1, 1) := by decide +kernel
theorem dX9_fewestOf_2 : decode cX9_fewestOf 2 = .ok (.iload_n 1, 1) := by decide +kernel
theorem dX9_fewestOf_3 : decode cX9_fewestOf 3 = .ok (.bipush 8, 2) := by decide +kernel
theorem dX9_fewestOf_5 : decode cX9_fewestOf 5 = .ok (.if_icmp .ge 102, 3) := by decide +kernel
theorem dX9_fewestOf_8 : decode cX9_fewestOf 8 = .ok (.aload_n 0, 1) := by decide +kernel
theorem dX9_fewestOf_9 : decode cX9_fewestOf 9 = .ok (.getfield 41, 3) := by decide +kernel
theorem dX9_fewestOf_12 : decode cX9_fewestOf 12 = .ok (.iload_n 1, 1) := by decide +kernel
theorem dX9_fewestOf_13 : decode cX9_fewestOf 13 = .ok (.iconst 0, 1) := by decide +kernel
theorem dX9_fewestOf_14 : decode cX9_fewestOf 14 = .ok (.iastore, 1) := by decide +kernel
theorem dX9_fewestOf_15 : decode cX9_fewestOf 15 = .ok (.iconst 0, 1) := by decide +kernel
theorem dX9_fewestOf_16 : decode cX9_fewestOf 16 = .ok (.istore_n 2, 1) := by decide +kernel
theorem dX9_fewestOf_17 : decode cX9_fewestOf 17 = .ok (.iload_n 2, 1) := by decide +kernel
theorem dX9_fewestOf_18 : decode cX9_fewestOf 18 = .ok (.aload_n 0, 1) := by decide +kernel
theorem dX9_fewestOf_19 : decode cX9_fewestOf 19 = .ok (.getfield 113, 3) := by decide +kernel
theorem dX9_fewestOf_22 : decode cX9_fewestOf 22 = .ok (.if_icmp .ge 79, 3) := by decide +kernel
theorem dX9_fewestOf_25 : decode cX9_fewestOf 25 = .ok (.aload_n 0, 1) := by decide +kernel
theorem dX9_fewestOf_26 : decode cX9_fewestOf 26 = .ok (.getfield 41, 3) := by decide +kernel
theorem dX9_fewestOf_29 : decode cX9_fewestOf 29 = .ok (.iload_n 1, 1) := by decide +kernel
theorem dX9_fewestOf_30 : decode cX9_fewestOf 30 = .ok (.dup2, 1) := by decide +kernel
theorem dX9_fewestOf_31 : decode cX9_fewestOf 31 = .ok (.iaload, 1) := by decide +kernel
theorem dX9_fewestOf_32 : decode cX9_fewestOf 32 = .ok (.aload_n 0, 1) := by decide +kernel
theorem dX9_fewestOf_33 : decode cX9_fewestOf 33 = .ok (.getfield 25, 3) := by decide +kernel
theorem dX9_fewestOf_36 : decode cX9_fewestOf 36 = .ok (.iconst 4, 1) := by decide +kernel
theorem dX9_fewestOf_37 : decode cX9_fewestOf 37 = .ok (.iload_n 2, 1) := by decide +kernel
theorem dX9_fewestOf_38 : decode cX9_fewestOf 38 = .ok (.imul, 1) := by decide +kernel
theorem dX9_fewestOf_39 : decode cX9_fewestOf 39 = .ok (.iconst 2, 1) := by decide +kernel
theorem dX9_fewestOf_40 : decode cX9_fewestOf 40 = .ok (.iadd, 1) := by decide +kernel
theorem dX9_fewestOf_41 : decode cX9_fewestOf 41 = .ok (.iaload, 1) := by decide +kernel
theorem dX9_fewestOf_42 : decode cX9_fewestOf 42 = .ok (.iload_n 1, 1) := by decide +kernel
theorem dX9_fewestOf_43 : decode cX9_fewestOf 43 = .ok (.if_icmp .ne 14, 3) := by decide +kernel
theorem dX9_fewestOf_46 : decode cX9_fewestOf 46 = .ok (.aload_n 0, 1) := by decide +kernel
theorem dX9_fewestOf_47 : decode cX9_fewestOf 47 = .ok (.getfield 25, 3) := by decide +kernel
theorem dX9_fewestOf_50 : decode cX9_fewestOf 50 = .ok (.iconst 4, 1) := by decide +kernel
theorem dX9_fewestOf_51 : decode cX9_fewestOf 51 = .ok (.iload_n 2, 1) := by decide +kernel
theorem dX9_fewestOf_52 : decode cX9_fewestOf 52 = .ok (.imul, 1) := by decide +kernel
theorem dX9_fewestOf_53 : decode cX9_fewestOf 53 = .ok (.iaload, 1) := by decide +kernel
theorem dX9_fewestOf_54 : decode cX9_fewestOf 54 = .ok (.goto 4, 3) := by decide +kernel
theorem dX9_fewestOf_57 : decode cX9_fewestOf 57 = .ok (.iconst 0, 1) := by decide +kernel
theorem dX9_fewestOf_58 : decode cX9_fewestOf 58 = .ok (.iadd, 1) := by decide +kernel
theorem dX9_fewestOf_59 : decode cX9_fewestOf 59 = .ok (.iastore, 1) := by decide +kernel
theorem dX9_fewestOf_60 : decode cX9_fewestOf 60 = .ok (.aload_n 0, 1) := by decide +kernel
theorem dX9_fewestOf_61 : decode cX9_fewestOf 61 = .ok (.getfield 41, 3) := by decide +kernel
theorem dX9_fewestOf_64 : decode cX9_fewestOf 64 = .ok (.iload_n 1, 1) := by decide +kernel
theorem dX9_fewestOf_65 : decode cX9_fewestOf 65 = .ok (.dup2, 1) := by decide +kernel
theorem dX9_fewestOf_66 : decode cX9_fewestOf 66 = .ok (.iaload, 1) := by decide +kernel
theorem dX9_fewestOf_67 : decode cX9_fewestOf 67 = .ok (.aload_n 0, 1) := by decide +kernel
theorem dX9_fewestOf_68 : decode cX9_fewestOf 68 = .ok (.getfield 25, 3) := by decide +kernel
theorem dX9_fewestOf_71 : decode cX9_fewestOf 71 = .ok (.iconst 4, 1) := by decide +kernel
theorem dX9_fewestOf_72 : decode cX9_fewestOf 72 = .ok (.iload_n 2, 1) := by decide +kernel
theorem dX9_fewestOf_73 : decode cX9_fewestOf 73 = .ok (.imul, 1) := by decide +kernel
theorem dX9_fewestOf_74 : decode cX9_fewestOf 74 = .ok (.iconst 1, 1) := by decide +kernel
theorem dX9_fewestOf_75 : decode cX9_fewestOf 75 = .ok (.iadd, 1) := by decide +kernel
theorem dX9_fewestOf_76 : decode cX9_fewestOf 76 = .ok (.iaload, 1) := by decide +kernel
theorem dX9_fewestOf_77 : decode cX9_fewestOf 77 = .ok (.iload_n 1, 1) := by decide +kernel
theorem dX9_fewestOf_78 : decode cX9_fewestOf 78 = .ok (.if_icmp .ne 14, 3) := by decide +kernel
theorem dX9_fewestOf_81 : decode cX9_fewestOf 81 = .ok (.aload_n 0, 1) := by decide +kernel
theorem dX9_fewestOf_82 : decode cX9_fewestOf 82 = .ok (.getfield 25, 3) := by decide +kernel
theorem dX9_fewestOf_85 : decode cX9_fewestOf 85 = .ok (.iconst 4, 1) := by decide +kernel
theorem dX9_fewestOf_86 : decode cX9_fewestOf 86 = .ok (.iload_n 2, 1) := by decide +kernel
theorem dX9_fewestOf_87 : decode cX9_fewestOf 87 = .ok (.imul, 1) := by decide +kernel
theorem dX9_fewestOf_88 : decode cX9_fewestOf 88 = .ok (.iaload, 1) := by decide +kernel
theorem dX9_fewestOf_89 : decode cX9_fewestOf 89 = .ok (.goto 4, 3) := by decide +kernel
theorem dX9_fewestOf_92 : decode cX9_fewestOf 92 = .ok (.iconst 0, 1) := by decide +kernel
theorem dX9_fewestOf_93 : decode cX9_fewestOf 93 = .ok (.isub, 1) := by decide +kernel
theorem dX9_fewestOf_94 : decode cX9_fewestOf 94 = .ok (.iastore, 1) := by decide +kernel
theorem dX9_fewestOf_95 : decode cX9_fewestOf 95 = .ok (.iinc 2 1, 3) := by decide +kernel
theorem dX9_fewestOf_98 : decode cX9_fewestOf 98 = .ok (.goto (-81), 3) := by decide +kernel
theorem dX9_fewestOf_101 : decode cX9_fewestOf 101 = .ok (.iinc 1 1, 3) := by decide +kernel
theorem dX9_fewestOf_104 : decode cX9_fewestOf 104 = .ok (.goto (-102), 3) := by decide +kernel
theorem dX9_fewestOf_107 : decode cX9_fewestOf 107 = .ok (.aload_n 0, 1) := by decide +kernel
theorem dX9_fewestOf_108 : decode cX9_fewestOf 108 = .ok (.getfield 38, 3) := by decide +kernel
theorem dX9_fewestOf_111 : decode cX9_fewestOf 111 = .ok (.iconst 0, 1) := by decide +kernel
theorem dX9_fewestOf_112 : decode cX9_fewestOf 112 = .ok (.iconst 0, 1) := by decide +kernel
theorem dX9_fewestOf_113 : decode cX9_fewestOf 113 = .ok (.iastore, 1) := by decide +kernel
theorem dX9_fewestOf_114 : decode cX9_fewestOf 114 = .ok (.iconst 1, 1) := by decide +kernel
theorem dX9_fewestOf_115 : decode cX9_fewestOf 115 = .ok (.istore_n 1, 1) := by decide +kernel
theorem dX9_fewestOf_116 : decode cX9_fewestOf 116 = .ok (.iload_n 1, 1) := by decide +kernel
theorem dX9_fewestOf_117 : decode cX9_fewestOf 117 = .ok (.sipush 256, 3) := by decide +kernel
theorem dX9_fewestOf_120 : decode cX9_fewestOf 120 = .ok (.if_icmp .ge 76, 3) := by decide +kernel
theorem dX9_fewestOf_123 : decode cX9_fewestOf 123 = .ok (.aload_n 0, 1) := by decide +kernel
theorem dX9_fewestOf_124 : decode cX9_fewestOf 124 = .ok (.getfield 38, 3) := by decide +kernel
theorem dX9_fewestOf_127 : decode cX9_fewestOf 127 = .ok (.iload_n 1, 1) := by decide +kernel
theorem dX9_fewestOf_128 : decode cX9_fewestOf 128 = .ok (.iconst (-1), 1) := by decide +kernel
theorem dX9_fewestOf_129 : decode cX9_fewestOf 129 = .ok (.iastore, 1) := by decide +kernel
theorem dX9_fewestOf_130 : decode cX9_fewestOf 130 = .ok (.iload_n 1, 1) := by decide +kernel
theorem dX9_fewestOf_131 : decode cX9_fewestOf 131 = .ok (.istore_n 2, 1) := by decide +kernel
theorem dX9_fewestOf_132 : decode cX9_fewestOf 132 = .ok (.iload_n 2, 1) := by decide +kernel
theorem dX9_fewestOf_133 : decode cX9_fewestOf 133 = .ok (.ifCond .le 57, 3) := by decide +kernel
theorem dX9_fewestOf_136 : decode cX9_fewestOf 136 = .ok (.aload_n 0, 1) := by decide +kernel
theorem dX9_fewestOf_137 : decode cX9_fewestOf 137 = .ok (.getfield 38, 3) := by decide +kernel
theorem dX9_fewestOf_140 : decode cX9_fewestOf 140 = .ok (.iload_n 1, 1) := by decide +kernel
theorem dX9_fewestOf_141 : decode cX9_fewestOf 141 = .ok (.iload_n 2, 1) := by decide +kernel
theorem dX9_fewestOf_142 : decode cX9_fewestOf 142 = .ok (.iconst (-1), 1) := by decide +kernel
theorem dX9_fewestOf_143 : decode cX9_fewestOf 143 = .ok (.ixor, 1) := by decide +kernel
theorem dX9_fewestOf_144 : decode cX9_fewestOf 144 = .ok (.iand, 1) := by decide +kernel
theorem dX9_fewestOf_145 : decode cX9_fewestOf 145 = .ok (.iaload, 1) := by decide +kernel
theorem dX9_fewestOf_146 : decode cX9_fewestOf 146 = .ok (.istore_n 3, 1) := by decide +kernel
theorem dX9_fewestOf_147 : decode cX9_fewestOf 147 = .ok (.iload_n 3, 1) := by decide +kernel
theorem dX9_fewestOf_148 : decode cX9_fewestOf 148 = .ok (.iconst (-1), 1) := by decide +kernel
theorem dX9_fewestOf_149 : decode cX9_fewestOf 149 = .ok (.if_icmp .eq 32, 3) := by decide +kernel
theorem dX9_fewestOf_152 : decode cX9_fewestOf 152 = .ok (.iload_n 3, 1) := by decide +kernel
theorem dX9_fewestOf_153 : decode cX9_fewestOf 153 = .ok (.iconst 1, 1) := by decide +kernel
theorem dX9_fewestOf_154 : decode cX9_fewestOf 154 = .ok (.iadd, 1) := by decide +kernel
theorem dX9_fewestOf_155 : decode cX9_fewestOf 155 = .ok (.aload_n 0, 1) := by decide +kernel
theorem dX9_fewestOf_156 : decode cX9_fewestOf 156 = .ok (.getfield 38, 3) := by decide +kernel
theorem dX9_fewestOf_159 : decode cX9_fewestOf 159 = .ok (.iload_n 1, 1) := by decide +kernel
theorem dX9_fewestOf_160 : decode cX9_fewestOf 160 = .ok (.iaload, 1) := by decide +kernel
theorem dX9_fewestOf_161 : decode cX9_fewestOf 161 = .ok (.if_icmp .le 20, 3) := by decide +kernel
theorem dX9_fewestOf_164 : decode cX9_fewestOf 164 = .ok (.aload_n 0, 1) := by decide +kernel
theorem dX9_fewestOf_165 : decode cX9_fewestOf 165 = .ok (.iload_n 2, 1) := by decide +kernel
theorem dX9_fewestOf_166 : decode cX9_fewestOf 166 = .ok (.invokevirtual 205, 3) := by decide +kernel
theorem dX9_fewestOf_169 : decode cX9_fewestOf 169 = .ok (.ifCond .ne 12, 3) := by decide +kernel
theorem dX9_fewestOf_172 : decode cX9_fewestOf 172 = .ok (.aload_n 0, 1) := by decide +kernel
theorem dX9_fewestOf_173 : decode cX9_fewestOf 173 = .ok (.getfield 38, 3) := by decide +kernel
theorem dX9_fewestOf_176 : decode cX9_fewestOf 176 = .ok (.iload_n 1, 1) := by decide +kernel
theorem dX9_fewestOf_177 : decode cX9_fewestOf 177 = .ok (.iload_n 3, 1) := by decide +kernel
theorem dX9_fewestOf_178 : decode cX9_fewestOf 178 = .ok (.iconst 1, 1) := by decide +kernel
theorem dX9_fewestOf_179 : decode cX9_fewestOf 179 = .ok (.iadd, 1) := by decide +kernel
theorem dX9_fewestOf_180 : decode cX9_fewestOf 180 = .ok (.iastore, 1) := by decide +kernel
theorem dX9_fewestOf_181 : decode cX9_fewestOf 181 = .ok (.iload_n 2, 1) := by decide +kernel
theorem dX9_fewestOf_182 : decode cX9_fewestOf 182 = .ok (.iconst 1, 1) := by decide +kernel
theorem dX9_fewestOf_183 : decode cX9_fewestOf 183 = .ok (.isub, 1) := by decide +kernel
theorem dX9_fewestOf_184 : decode cX9_fewestOf 184 = .ok (.iload_n 1, 1) := by decide +kernel
theorem dX9_fewestOf_185 : decode cX9_fewestOf 185 = .ok (.iand, 1) := by decide +kernel
theorem dX9_fewestOf_186 : decode cX9_fewestOf 186 = .ok (.istore_n 2, 1) := by decide +kernel
theorem dX9_fewestOf_187 : decode cX9_fewestOf 187 = .ok (.goto (-55), 3) := by decide +kernel
theorem dX9_fewestOf_190 : decode cX9_fewestOf 190 = .ok (.iinc 1 1, 3) := by decide +kernel
theorem dX9_fewestOf_193 : decode cX9_fewestOf 193 = .ok (.goto (-77), 3) := by decide +kernel
theorem dX9_fewestOf_196 : decode cX9_fewestOf 196 = .ok (.bipush 8, 2) := by decide +kernel
theorem dX9_fewestOf_198 : decode cX9_fewestOf 198 = .ok (.aload_n 0, 1) := by decide +kernel
theorem dX9_fewestOf_199 : decode cX9_fewestOf 199 = .ok (.getfield 38, 3) := by decide +kernel
theorem dX9_fewestOf_202 : decode cX9_fewestOf 202 = .ok (.sipush 255, 3) := by decide +kernel
theorem dX9_fewestOf_205 : decode cX9_fewestOf 205 = .ok (.iaload, 1) := by decide +kernel
theorem dX9_fewestOf_206 : decode cX9_fewestOf 206 = .ok (.isub, 1) := by decide +kernel
theorem dX9_fewestOf_207 : decode cX9_fewestOf 207 = .ok (.ireturn, 1) := by decide +kernel
theorem dX9_fewest_0 : decode cX9_fewest 0 = .ok (.aload_n 0, 1) := by decide +kernel
theorem dX9_fewest_1 : decode cX9_fewest 1 = .ok (.invokevirtual 208, 3) := by decide +kernel
theorem dX9_fewest_4 : decode cX9_fewest 4 = .ok (.ireturn, 1) := by decide +kernel
theorem dX9_draw_0 : decode cX9_draw 0 = .ok (.aload_n 0, 1) := by decide +kernel
theorem dX9_draw_1 : decode cX9_draw 1 = .ok (.ldc2_w 211, 3) := by decide +kernel
theorem dX9_draw_4 : decode cX9_draw 4 = .ok (.aload_n 0, 1) := by decide +kernel
theorem dX9_draw_5 : decode cX9_draw 5 = .ok (.getfield 213, 3) := by decide +kernel
theorem dX9_draw_8 : decode cX9_draw 8 = .ok (.i2l, 1) := by decide +kernel
theorem dX9_draw_9 : decode cX9_draw 9 = .ok (.lmul, 1) := by decide +kernel
theorem dX9_draw_10 : decode cX9_draw 10 = .ok (.ldc2_w 216, 3) := by decide +kernel
theorem dX9_draw_13 : decode cX9_draw 13 = .ok (.ladd, 1) := by decide +kernel
theorem dX9_draw_14 : decode cX9_draw 14 = .ok (.ldc2_w 218, 3) := by decide +kernel
theorem dX9_draw_17 : decode cX9_draw 17 = .ok (.land, 1) := by decide +kernel
theorem dX9_draw_18 : decode cX9_draw 18 = .ok (.l2i, 1) := by decide +kernel
theorem dX9_draw_19 : decode cX9_draw 19 = .ok (.putfield 213, 3) := by decide +kernel
theorem dX9_draw_22 : decode cX9_draw 22 = .ok (.aload_n 0, 1) := by decide +kernel
theorem dX9_draw_23 : decode cX9_draw 23 = .ok (.getfield 213, 3) := by decide +kernel
theorem dX9_draw_26 : decode cX9_draw 26 = .ok (.ldc 220, 2) := by decide +kernel
theorem dX9_draw_28 : decode cX9_draw 28 = .ok (.idiv, 1) := by decide +kernel
theorem dX9_draw_29 : decode cX9_draw 29 = .ok (.iload_n 1, 1) := by decide +kernel
theorem dX9_draw_30 : decode cX9_draw 30 = .ok (.irem, 1) := by decide +kernel
theorem dX9_draw_31 : decode cX9_draw 31 = .ok (.ireturn, 1) := by decide +kernel
theorem dX9_months_0 : decode cX9_months 0 = .ok (.iload_n 1, 1) := by decide +kernel
theorem dX9_months_1 : decode cX9_months 1 = .ok (.i2l, 1) := by decide +kernel
theorem dX9_months_2 : decode cX9_months 2 = .ok (.lconst 1, 1) := by decide +kernel
theorem dX9_months_3 : decode cX9_months 3 = .ok (.ldc2_w 163, 3) := by decide +kernel
theorem dX9_months_6 : decode cX9_months 6 = .ok (.invokestatic 70, 3) := by decide +kernel
theorem dX9_months_9 : decode cX9_months 9 = .ok (.ifCond .eq 19, 3) := by decide +kernel
theorem dX9_months_12 : decode cX9_months 12 = .ok (.iload_n 2, 1) := by decide +kernel
theorem dX9_months_13 : decode cX9_months 13 = .ok (.ifCond .lt 15, 3) := by decide +kernel
theorem dX9_months_16 : decode cX9_months 16 = .ok (.iload_n 3, 1) := by decide +kernel
theorem dX9_months_17 : decode cX9_months 17 = .ok (.i2l, 1) := by decide +kernel
theorem dX9_months_18 : decode cX9_months 18 = .ok (.lconst 0, 1) := by decide +kernel
theorem dX9_months_19 : decode cX9_months 19 = .ok (.ldc2_w 167, 3) := by decide +kernel
theorem dX9_months_22 : decode cX9_months 22 = .ok (.invokestatic 70, 3) := by decide +kernel
theorem dX9_months_25 : decode cX9_months 25 = .ok (.ifCond .ne 6, 3) := by decide +kernel
theorem dX9_months_28 : decode cX9_months 28 = .ok (.bipush (-102), 2) := by decide +kernel
theorem dX9_months_30 : decode cX9_months 30 = .ok (.ireturn, 1) := by decide +kernel
theorem dX9_months_31 : decode cX9_months 31 = .ok (.aload_n 0, 1) := by decide +kernel
theorem dX9_months_32 : decode cX9_months 32 = .ok (.invokevirtual 147, 3) := by decide +kernel
theorem dX9_months_35 : decode cX9_months 35 = .ok (.ifCond .eq 6, 3) := by decide +kernel
theorem dX9_months_38 : decode cX9_months 38 = .ok (.bipush (-103), 2) := by decide +kernel
theorem dX9_months_40 : decode cX9_months 40 = .ok (.ireturn, 1) := by decide +kernel
theorem dX9_months_41 : decode cX9_months 41 = .ok (.aload_n 0, 1) := by decide +kernel
theorem dX9_months_42 : decode cX9_months 42 = .ok (.invokevirtual 151, 3) := by decide +kernel
theorem dX9_months_45 : decode cX9_months 45 = .ok (.aload_n 0, 1) := by decide +kernel
theorem dX9_months_46 : decode cX9_months 46 = .ok (.iload_n 2, 1) := by decide +kernel
theorem dX9_months_47 : decode cX9_months 47 = .ok (.putfield 213, 3) := by decide +kernel
theorem dX9_months_50 : decode cX9_months 50 = .ok (.iconst 0, 1) := by decide +kernel
theorem dX9_months_51 : decode cX9_months 51 = .ok (.istore 4, 2) := by decide +kernel
theorem dX9_months_53 : decode cX9_months 53 = .ok (.iconst 0, 1) := by decide +kernel
theorem dX9_months_54 : decode cX9_months 54 = .ok (.istore 5, 2) := by decide +kernel
theorem dX9_months_56 : decode cX9_months 56 = .ok (.iload 5, 2) := by decide +kernel
theorem dX9_months_58 : decode cX9_months 58 = .ok (.iload_n 1, 1) := by decide +kernel
theorem dX9_months_59 : decode cX9_months 59 = .ok (.if_icmp .ge 78, 3) := by decide +kernel
theorem dX9_months_62 : decode cX9_months 62 = .ok (.iconst 0, 1) := by decide +kernel
theorem dX9_months_63 : decode cX9_months 63 = .ok (.istore 6, 2) := by decide +kernel
theorem dX9_months_65 : decode cX9_months 65 = .ok (.iconst 0, 1) := by decide +kernel
theorem dX9_months_66 : decode cX9_months 66 = .ok (.istore 7, 2) := by decide +kernel
theorem dX9_months_68 : decode cX9_months 68 = .ok (.iload 7, 2) := by decide +kernel
theorem dX9_months_70 : decode cX9_months 70 = .ok (.aload_n 0, 1) := by decide +kernel
theorem dX9_months_71 : decode cX9_months 71 = .ok (.getfield 91, 3) := by decide +kernel
theorem dX9_months_74 : decode cX9_months 74 = .ok (.if_icmp .ge 38, 3) := by decide +kernel
theorem dX9_months_77 : decode cX9_months 77 = .ok (.iload 6, 2) := by decide +kernel
theorem dX9_months_79 : decode cX9_months 79 = .ok (.aload_n 0, 1) := by decide +kernel
theorem dX9_months_80 : decode cX9_months 80 = .ok (.bipush 10, 2) := by decide +kernel
theorem dX9_months_82 : decode cX9_months 82 = .ok (.invokevirtual 221, 3) := by decide +kernel
theorem dX9_months_85 : decode cX9_months 85 = .ok (.aload_n 0, 1) := by decide +kernel
theorem dX9_months_86 : decode cX9_months 86 = .ok (.getfield 19, 3) := by decide +kernel
theorem dX9_months_89 : decode cX9_months 89 = .ok (.iload 7, 2) := by decide +kernel
theorem dX9_months_91 : decode cX9_months 91 = .ok (.iaload, 1) := by decide +kernel
theorem dX9_months_92 : decode cX9_months 92 = .ok (.if_icmp .ge 10, 3) := by decide +kernel
theorem dX9_months_95 : decode cX9_months 95 = .ok (.iconst 1, 1) := by decide +kernel
theorem dX9_months_96 : decode cX9_months 96 = .ok (.iload 7, 2) := by decide +kernel
theorem dX9_months_98 : decode cX9_months 98 = .ok (.ishl, 1) := by decide +kernel
theorem dX9_months_99 : decode cX9_months 99 = .ok (.goto 4, 3) := by decide +kernel
theorem dX9_months_102 : decode cX9_months 102 = .ok (.iconst 0, 1) := by decide +kernel
theorem dX9_months_103 : decode cX9_months 103 = .ok (.ior, 1) := by decide +kernel
theorem dX9_months_104 : decode cX9_months 104 = .ok (.istore 6, 2) := by decide +kernel
theorem dX9_months_106 : decode cX9_months 106 = .ok (.iinc 7 1, 3) := by decide +kernel
theorem dX9_months_109 : decode cX9_months 109 = .ok (.goto (-41), 3) := by decide +kernel
theorem dX9_months_112 : decode cX9_months 112 = .ok (.aload_n 0, 1) := by decide +kernel
theorem dX9_months_113 : decode cX9_months 113 = .ok (.iload 6, 2) := by decide +kernel
theorem dX9_months_115 : decode cX9_months 115 = .ok (.aload_n 0, 1) := by decide +kernel
theorem dX9_months_116 : decode cX9_months 116 = .ok (.getfield 94, 3) := by decide +kernel
theorem dX9_months_119 : decode cX9_months 119 = .ok (.invokevirtual 154, 3) := by decide +kernel
theorem dX9_months_122 : decode cX9_months 122 = .ok (.istore 7, 2) := by decide +kernel
theorem dX9_months_124 : decode cX9_months 124 = .ok (.iload 4, 2) := by decide +kernel
theorem dX9_months_126 : decode cX9_months 126 = .ok (.iload 7, 2) := by decide +kernel
theorem dX9_months_128 : decode cX9_months 128 = .ok (.iadd, 1) := by decide +kernel
theorem dX9_months_129 : decode cX9_months 129 = .ok (.istore 4, 2) := by decide +kernel
theorem dX9_months_131 : decode cX9_months 131 = .ok (.iinc 5 1, 3) := by decide +kernel
theorem dX9_months_134 : decode cX9_months 134 = .ok (.goto (-78), 3) := by decide +kernel
theorem dX9_months_137 : decode cX9_months 137 = .ok (.iconst 0, 1) := by decide +kernel
theorem dX9_months_138 : decode cX9_months 138 = .ok (.istore 5, 2) := by decide +kernel
theorem dX9_months_140 : decode cX9_months 140 = .ok (.iconst 0, 1) := by decide +kernel
theorem dX9_months_141 : decode cX9_months 141 = .ok (.istore 6, 2) := by decide +kernel
theorem dX9_months_143 : decode cX9_months 143 = .ok (.iload 6, 2) := by decide +kernel
theorem dX9_months_145 : decode cX9_months 145 = .ok (.aload_n 0, 1) := by decide +kernel
theorem dX9_months_146 : decode cX9_months 146 = .ok (.getfield 113, 3) := by decide +kernel
theorem dX9_months_149 : decode cX9_months 149 = .ok (.if_icmp .ge 48, 3) := by decide +kernel
theorem dX9_months_152 : decode cX9_months 152 = .ok (.iload 5, 2) := by decide +kernel
theorem dX9_months_154 : decode cX9_months 154 = .ok (.aload_n 0, 1) := by decide +kernel
theorem dX9_months_155 : decode cX9_months 155 = .ok (.getfield 28, 3) := by decide +kernel
theorem dX9_months_158 : decode cX9_months 158 = .ok (.iload 6, 2) := by decide +kernel
theorem dX9_months_160 : decode cX9_months 160 = .ok (.iaload, 1) := by decide +kernel
theorem dX9_months_161 : decode cX9_months 161 = .ok (.aload_n 0, 1) := by decide +kernel
theorem dX9_months_162 : decode cX9_months 162 = .ok (.getfield 25, 3) := by decide +kernel
theorem dX9_months_165 : decode cX9_months 165 = .ok (.iconst 4, 1) := by decide +kernel
theorem dX9_months_166 : decode cX9_months 166 = .ok (.iload 6, 2) := by decide +kernel
theorem dX9_months_168 : decode cX9_months 168 = .ok (.imul, 1) := by decide +kernel
theorem dX9_months_169 : decode cX9_months 169 = .ok (.iconst 1, 1) := by decide +kernel
theorem dX9_months_170 : decode cX9_months 170 = .ok (.iadd, 1) := by decide +kernel
theorem dX9_months_171 : decode cX9_months 171 = .ok (.iaload, 1) := by decide +kernel
theorem dX9_months_172 : decode cX9_months 172 = .ok (.if_icmp .ne 15, 3) := by decide +kernel
theorem dX9_months_175 : decode cX9_months 175 = .ok (.aload_n 0, 1) := by decide +kernel
theorem dX9_months_176 : decode cX9_months 176 = .ok (.getfield 25, 3) := by decide +kernel
theorem dX9_months_179 : decode cX9_months 179 = .ok (.iconst 4, 1) := by decide +kernel
theorem dX9_months_180 : decode cX9_months 180 = .ok (.iload 6, 2) := by decide +kernel
theorem dX9_months_182 : decode cX9_months 182 = .ok (.imul, 1) := by decide +kernel
theorem dX9_months_183 : decode cX9_months 183 = .ok (.iaload, 1) := by decide +kernel
theorem dX9_months_184 : decode cX9_months 184 = .ok (.goto 4, 3) := by decide +kernel
theorem dX9_months_187 : decode cX9_months 187 = .ok (.iconst 0, 1) := by decide +kernel
theorem dX9_months_188 : decode cX9_months 188 = .ok (.iadd, 1) := by decide +kernel
theorem dX9_months_189 : decode cX9_months 189 = .ok (.istore 5, 2) := by decide +kernel
theorem dX9_months_191 : decode cX9_months 191 = .ok (.iinc 6 1, 3) := by decide +kernel
theorem dX9_months_194 : decode cX9_months 194 = .ok (.goto (-51), 3) := by decide +kernel
theorem dX9_months_197 : decode cX9_months 197 = .ok (.iload_n 3, 1) := by decide +kernel
theorem dX9_months_198 : decode cX9_months 198 = .ok (.ifCond .ne 8, 3) := by decide +kernel
theorem dX9_months_201 : decode cX9_months 201 = .ok (.iload 5, 2) := by decide +kernel
theorem dX9_months_203 : decode cX9_months 203 = .ok (.goto 17, 3) := by decide +kernel
theorem dX9_months_206 : decode cX9_months 206 = .ok (.iload_n 3, 1) := by decide +kernel
theorem dX9_months_207 : decode cX9_months 207 = .ok (.iconst 1, 1) := by decide +kernel
theorem dX9_months_208 : decode cX9_months 208 = .ok (.if_icmp .ne 8, 3) := by decide +kernel
theorem dX9_months_211 : decode cX9_months 211 = .ok (.iload 4, 2) := by decide +kernel
theorem dX9_months_213 : decode cX9_months 213 = .ok (.goto 7, 3) := by decide +kernel
theorem dX9_months_216 : decode cX9_months 216 = .ok (.aload_n 0, 1) := by decide +kernel
theorem dX9_months_217 : decode cX9_months 217 = .ok (.getfield 213, 3) := by decide +kernel
theorem dX9_months_220 : decode cX9_months 220 = .ok (.ireturn, 1) := by decide +kernel
theorem dX9_copy_0 : decode cX9_copy 0 = .ok (.iconst 0, 1) := by decide +kernel
theorem dX9_copy_1 : decode cX9_copy 1 = .ok (.istore_n 2, 1) := by decide +kernel
theorem dX9_copy_2 : decode cX9_copy 2 = .ok (.iload_n 2, 1) := by decide +kernel
theorem dX9_copy_3 : decode cX9_copy 3 = .ok (.aload_n 0, 1) := by decide +kernel
theorem dX9_copy_4 : decode cX9_copy 4 = .ok (.arraylength, 1) := by decide +kernel
theorem dX9_copy_5 : decode cX9_copy 5 = .ok (.if_icmp .ge 15, 3) := by decide +kernel
theorem dX9_copy_8 : decode cX9_copy 8 = .ok (.aload_n 1, 1) := by decide +kernel
theorem dX9_copy_9 : decode cX9_copy 9 = .ok (.iload_n 2, 1) := by decide +kernel
theorem dX9_copy_10 : decode cX9_copy 10 = .ok (.aload_n 0, 1) := by decide +kernel
theorem dX9_copy_11 : decode cX9_copy 11 = .ok (.iload_n 2, 1) := by decide +kernel
theorem dX9_copy_12 : decode cX9_copy 12 = .ok (.iaload, 1) := by decide +kernel
theorem dX9_copy_13 : decode cX9_copy 13 = .ok (.iastore, 1) := by decide +kernel
theorem dX9_copy_14 : decode cX9_copy 14 = .ok (.iinc 2 1, 3) := by decide +kernel
theorem dX9_copy_17 : decode cX9_copy 17 = .ok (.goto (-15), 3) := by decide +kernel
theorem dX9_copy_20 : decode cX9_copy 20 = .ok (.return_, 1) := by decide +kernel
theorem dX9_image_0 : decode cX9_image 0 = .ok (.aload_n 0, 1) := by decide +kernel
theorem dX9_image_1 : decode cX9_image 1 = .ok (.getfield 22, 3) := by decide +kernel
theorem dX9_image_4 : decode cX9_image 4 = .ok (.aload_n 0, 1) := by decide +kernel
theorem dX9_image_5 : decode cX9_image 5 = .ok (.getfield 44, 3) := by decide +kernel
theorem dX9_image_8 : decode cX9_image 8 = .ok (.invokestatic 224, 3) := by decide +kernel
theorem dX9_image_11 : decode cX9_image 11 = .ok (.aload_n 0, 1) := by decide +kernel
theorem dX9_image_12 : decode cX9_image 12 = .ok (.getfield 19, 3) := by decide +kernel
theorem dX9_image_15 : decode cX9_image 15 = .ok (.aload_n 0, 1) := by decide +kernel
theorem dX9_image_16 : decode cX9_image 16 = .ok (.getfield 47, 3) := by decide +kernel
theorem dX9_image_19 : decode cX9_image 19 = .ok (.invokestatic 224, 3) := by decide +kernel
theorem dX9_image_22 : decode cX9_image 22 = .ok (.aload_n 0, 1) := by decide +kernel
theorem dX9_image_23 : decode cX9_image 23 = .ok (.getfield 25, 3) := by decide +kernel
theorem dX9_image_26 : decode cX9_image 26 = .ok (.aload_n 0, 1) := by decide +kernel
theorem dX9_image_27 : decode cX9_image 27 = .ok (.getfield 50, 3) := by decide +kernel
theorem dX9_image_30 : decode cX9_image 30 = .ok (.invokestatic 224, 3) := by decide +kernel
theorem dX9_image_33 : decode cX9_image 33 = .ok (.aload_n 0, 1) := by decide +kernel
theorem dX9_image_34 : decode cX9_image 34 = .ok (.aload_n 0, 1) := by decide +kernel
theorem dX9_image_35 : decode cX9_image 35 = .ok (.getfield 113, 3) := by decide +kernel
theorem dX9_image_38 : decode cX9_image 38 = .ok (.putfield 228, 3) := by decide +kernel
theorem dX9_image_41 : decode cX9_image 41 = .ok (.aload_n 0, 1) := by decide +kernel
theorem dX9_image_42 : decode cX9_image 42 = .ok (.aload_n 0, 1) := by decide +kernel
theorem dX9_image_43 : decode cX9_image 43 = .ok (.getfield 157, 3) := by decide +kernel
theorem dX9_image_46 : decode cX9_image 46 = .ok (.putfield 231, 3) := by decide +kernel
theorem dX9_image_49 : decode cX9_image 49 = .ok (.aload_n 0, 1) := by decide +kernel
theorem dX9_image_50 : decode cX9_image 50 = .ok (.aload_n 0, 1) := by decide +kernel
theorem dX9_image_51 : decode cX9_image 51 = .ok (.getfield 160, 3) := by decide +kernel
theorem dX9_image_54 : decode cX9_image 54 = .ok (.putfield 234, 3) := by decide +kernel
theorem dX9_image_57 : decode cX9_image 57 = .ok (.aload_n 0, 1) := by decide +kernel
theorem dX9_image_58 : decode cX9_image 58 = .ok (.aload_n 0, 1) := by decide +kernel
theorem dX9_image_59 : decode cX9_image 59 = .ok (.getfield 119, 3) := by decide +kernel
theorem dX9_image_62 : decode cX9_image 62 = .ok (.putfield 237, 3) := by decide +kernel
theorem dX9_image_65 : decode cX9_image 65 = .ok (.aload_n 0, 1) := by decide +kernel
theorem dX9_image_66 : decode cX9_image 66 = .ok (.aload_n 0, 1) := by decide +kernel
theorem dX9_image_67 : decode cX9_image 67 = .ok (.getfield 94, 3) := by decide +kernel
theorem dX9_image_70 : decode cX9_image 70 = .ok (.putfield 240, 3) := by decide +kernel
theorem dX9_image_73 : decode cX9_image 73 = .ok (.aload_n 0, 1) := by decide +kernel
theorem dX9_image_74 : decode cX9_image 74 = .ok (.aload_n 0, 1) := by decide +kernel
theorem dX9_image_75 : decode cX9_image 75 = .ok (.getfield 97, 3) := by decide +kernel
theorem dX9_image_78 : decode cX9_image 78 = .ok (.putfield 53, 3) := by decide +kernel
theorem dX9_image_81 : decode cX9_image 81 = .ok (.aload_n 0, 1) := by decide +kernel
theorem dX9_image_82 : decode cX9_image 82 = .ok (.getfield 113, 3) := by decide +kernel
theorem dX9_image_85 : decode cX9_image 85 = .ok (.ireturn, 1) := by decide +kernel
theorem dX9_restore_0 : decode cX9_restore 0 = .ok (.aload_n 0, 1) := by decide +kernel
theorem dX9_restore_1 : decode cX9_restore 1 = .ok (.getfield 53, 3) := by decide +kernel
theorem dX9_restore_4 : decode cX9_restore 4 = .ok (.aload_n 0, 1) := by decide +kernel
theorem dX9_restore_5 : decode cX9_restore 5 = .ok (.getfield 97, 3) := by decide +kernel
theorem dX9_restore_8 : decode cX9_restore 8 = .ok (.if_icmp .ne 14, 3) := by decide +kernel
theorem dX9_restore_11 : decode cX9_restore 11 = .ok (.aload_n 0, 1) := by decide +kernel
theorem dX9_restore_12 : decode cX9_restore 12 = .ok (.getfield 228, 3) := by decide +kernel
theorem dX9_restore_15 : decode cX9_restore 15 = .ok (.aload_n 0, 1) := by decide +kernel
theorem dX9_restore_16 : decode cX9_restore 16 = .ok (.getfield 113, 3) := by decide +kernel
theorem dX9_restore_19 : decode cX9_restore 19 = .ok (.if_icmp .eq 6, 3) := by decide +kernel
theorem dX9_restore_22 : decode cX9_restore 22 = .ok (.bipush (-103), 2) := by decide +kernel
theorem dX9_restore_24 : decode cX9_restore 24 = .ok (.ireturn, 1) := by decide +kernel
theorem dX9_restore_25 : decode cX9_restore 25 = .ok (.aload_n 0, 1) := by decide +kernel
theorem dX9_restore_26 : decode cX9_restore 26 = .ok (.getfield 44, 3) := by decide +kernel
theorem dX9_restore_29 : decode cX9_restore 29 = .ok (.aload_n 0, 1) := by decide +kernel
theorem dX9_restore_30 : decode cX9_restore 30 = .ok (.getfield 22, 3) := by decide +kernel
theorem dX9_restore_33 : decode cX9_restore 33 = .ok (.invokestatic 224, 3) := by decide +kernel
theorem dX9_restore_36 : decode cX9_restore 36 = .ok (.aload_n 0, 1) := by decide +kernel
theorem dX9_restore_37 : decode cX9_restore 37 = .ok (.getfield 47, 3) := by decide +kernel
theorem dX9_restore_40 : decode cX9_restore 40 = .ok (.aload_n 0, 1) := by decide +kernel
theorem dX9_restore_41 : decode cX9_restore 41 = .ok (.getfield 19, 3) := by decide +kernel
theorem dX9_restore_44 : decode cX9_restore 44 = .ok (.invokestatic 224, 3) := by decide +kernel
theorem dX9_restore_47 : decode cX9_restore 47 = .ok (.aload_n 0, 1) := by decide +kernel
theorem dX9_restore_48 : decode cX9_restore 48 = .ok (.getfield 50, 3) := by decide +kernel
theorem dX9_restore_51 : decode cX9_restore 51 = .ok (.aload_n 0, 1) := by decide +kernel
theorem dX9_restore_52 : decode cX9_restore 52 = .ok (.getfield 25, 3) := by decide +kernel
theorem dX9_restore_55 : decode cX9_restore 55 = .ok (.invokestatic 224, 3) := by decide +kernel
theorem dX9_restore_58 : decode cX9_restore 58 = .ok (.aload_n 0, 1) := by decide +kernel
theorem dX9_restore_59 : decode cX9_restore 59 = .ok (.aload_n 0, 1) := by decide +kernel
theorem dX9_restore_60 : decode cX9_restore 60 = .ok (.getfield 231, 3) := by decide +kernel
theorem dX9_restore_63 : decode cX9_restore 63 = .ok (.putfield 157, 3) := by decide +kernel
theorem dX9_restore_66 : decode cX9_restore 66 = .ok (.aload_n 0, 1) := by decide +kernel
theorem dX9_restore_67 : decode cX9_restore 67 = .ok (.aload_n 0, 1) := by decide +kernel
theorem dX9_restore_68 : decode cX9_restore 68 = .ok (.getfield 234, 3) := by decide +kernel
theorem dX9_restore_71 : decode cX9_restore 71 = .ok (.putfield 160, 3) := by decide +kernel
theorem dX9_restore_74 : decode cX9_restore 74 = .ok (.aload_n 0, 1) := by decide +kernel
theorem dX9_restore_75 : decode cX9_restore 75 = .ok (.aload_n 0, 1) := by decide +kernel
theorem dX9_restore_76 : decode cX9_restore 76 = .ok (.getfield 237, 3) := by decide +kernel
theorem dX9_restore_79 : decode cX9_restore 79 = .ok (.putfield 119, 3) := by decide +kernel
theorem dX9_restore_82 : decode cX9_restore 82 = .ok (.aload_n 0, 1) := by decide +kernel
theorem dX9_restore_83 : decode cX9_restore 83 = .ok (.aload_n 0, 1) := by decide +kernel
theorem dX9_restore_84 : decode cX9_restore 84 = .ok (.getfield 240, 3) := by decide +kernel
theorem dX9_restore_87 : decode cX9_restore 87 = .ok (.putfield 94, 3) := by decide +kernel
theorem dX9_restore_90 : decode cX9_restore 90 = .ok (.aload_n 0, 1) := by decide +kernel
theorem dX9_restore_91 : decode cX9_restore 91 = .ok (.getfield 113, 3) := by decide +kernel
theorem dX9_restore_94 : decode cX9_restore 94 = .ok (.ireturn, 1) := by decide +kernel
theorem dX9_countOf_0 : decode cX9_countOf 0 = .ok (.iconst 0, 1) := by decide +kernel
theorem dX9_countOf_1 : decode cX9_countOf 1 = .ok (.istore_n 2, 1) := by decide +kernel
theorem dX9_countOf_2 : decode cX9_countOf 2 = .ok (.iconst 0, 1) := by decide +kernel
theorem dX9_countOf_3 : decode cX9_countOf 3 = .ok (.istore_n 3, 1) := by decide +kernel
theorem dX9_countOf_4 : decode cX9_countOf 4 = .ok (.iload_n 3, 1) := by decide +kernel
theorem dX9_countOf_5 : decode cX9_countOf 5 = .ok (.aload_n 0, 1) := by decide +kernel
theorem dX9_countOf_6 : decode cX9_countOf 6 = .ok (.getfield 113, 3) := by decide +kernel
theorem dX9_countOf_9 : decode cX9_countOf 9 = .ok (.if_icmp .ge 40, 3) := by decide +kernel
theorem dX9_countOf_12 : decode cX9_countOf 12 = .ok (.iload_n 2, 1) := by decide +kernel
theorem dX9_countOf_13 : decode cX9_countOf 13 = .ok (.aload_n 0, 1) := by decide +kernel
theorem dX9_countOf_14 : decode cX9_countOf 14 = .ok (.getfield 25, 3) := by decide +kernel
theorem dX9_countOf_17 : decode cX9_countOf 17 = .ok (.iconst 4, 1) := by decide +kernel
theorem dX9_countOf_18 : decode cX9_countOf 18 = .ok (.iload_n 3, 1) := by decide +kernel
theorem dX9_countOf_19 : decode cX9_countOf 19 = .ok (.imul, 1) := by decide +kernel
theorem dX9_countOf_20 : decode cX9_countOf 20 = .ok (.iconst 1, 1) := by decide +kernel
theorem dX9_countOf_21 : decode cX9_countOf 21 = .ok (.iadd, 1) := by decide +kernel
theorem dX9_countOf_22 : decode cX9_countOf 22 = .ok (.iaload, 1) := by decide +kernel
theorem dX9_countOf_23 : decode cX9_countOf 23 = .ok (.aload_n 0, 1) := by decide +kernel
theorem dX9_countOf_24 : decode cX9_countOf 24 = .ok (.getfield 25, 3) := by decide +kernel
theorem dX9_countOf_27 : decode cX9_countOf 27 = .ok (.iconst 4, 1) := by decide +kernel
theorem dX9_countOf_28 : decode cX9_countOf 28 = .ok (.iload_n 3, 1) := by decide +kernel
theorem dX9_countOf_29 : decode cX9_countOf 29 = .ok (.imul, 1) := by decide +kernel
theorem dX9_countOf_30 : decode cX9_countOf 30 = .ok (.iconst 2, 1) := by decide +kernel
theorem dX9_countOf_31 : decode cX9_countOf 31 = .ok (.iadd, 1) := by decide +kernel
theorem dX9_countOf_32 : decode cX9_countOf 32 = .ok (.iaload, 1) := by decide +kernel
theorem dX9_countOf_33 : decode cX9_countOf 33 = .ok (.if_icmp .ne 7, 3) := by decide +kernel
theorem dX9_countOf_36 : decode cX9_countOf 36 = .ok (.iconst 0, 1) := by decide +kernel
theorem dX9_countOf_37 : decode cX9_countOf 37 = .ok (.goto 4, 3) := by decide +kernel
theorem dX9_countOf_40 : decode cX9_countOf 40 = .ok (.iconst 1, 1) := by decide +kernel
theorem dX9_countOf_41 : decode cX9_countOf 41 = .ok (.iadd, 1) := by decide +kernel
theorem dX9_countOf_42 : decode cX9_countOf 42 = .ok (.istore_n 2, 1) := by decide +kernel
theorem dX9_countOf_43 : decode cX9_countOf 43 = .ok (.iinc 3 1, 3) := by decide +kernel
theorem dX9_countOf_46 : decode cX9_countOf 46 = .ok (.goto (-42), 3) := by decide +kernel
theorem dX9_countOf_49 : decode cX9_countOf 49 = .ok (.iload_n 1, 1) := by decide +kernel
theorem dX9_countOf_50 : decode cX9_countOf 50 = .ok (.tableswitch 74 0 6 #[42, 47, 52, 57, 62, 67, 69], 42) := by decide +kernel
theorem dX9_countOf_92 : decode cX9_countOf 92 = .ok (.aload_n 0, 1) := by decide +kernel
theorem dX9_countOf_93 : decode cX9_countOf 93 = .ok (.getfield 91, 3) := by decide +kernel
theorem dX9_countOf_96 : decode cX9_countOf 96 = .ok (.ireturn, 1) := by decide +kernel
theorem dX9_countOf_97 : decode cX9_countOf 97 = .ok (.aload_n 0, 1) := by decide +kernel
theorem dX9_countOf_98 : decode cX9_countOf 98 = .ok (.getfield 113, 3) := by decide +kernel
theorem dX9_countOf_101 : decode cX9_countOf 101 = .ok (.ireturn, 1) := by decide +kernel
theorem dX9_countOf_102 : decode cX9_countOf 102 = .ok (.aload_n 0, 1) := by decide +kernel
theorem dX9_countOf_103 : decode cX9_countOf 103 = .ok (.getfield 157, 3) := by decide +kernel
theorem dX9_countOf_106 : decode cX9_countOf 106 = .ok (.ireturn, 1) := by decide +kernel
theorem dX9_countOf_107 : decode cX9_countOf 107 = .ok (.aload_n 0, 1) := by decide +kernel
theorem dX9_countOf_108 : decode cX9_countOf 108 = .ok (.getfield 160, 3) := by decide +kernel
theorem dX9_countOf_111 : decode cX9_countOf 111 = .ok (.ireturn, 1) := by decide +kernel
theorem dX9_countOf_112 : decode cX9_countOf 112 = .ok (.aload_n 0, 1) := by decide +kernel
theorem dX9_countOf_113 : decode cX9_countOf 113 = .ok (.getfield 59, 3) := by decide +kernel
theorem dX9_countOf_116 : decode cX9_countOf 116 = .ok (.ireturn, 1) := by decide +kernel
theorem dX9_countOf_117 : decode cX9_countOf 117 = .ok (.iload_n 2, 1) := by decide +kernel
theorem dX9_countOf_118 : decode cX9_countOf 118 = .ok (.ireturn, 1) := by decide +kernel
theorem dX9_countOf_119 : decode cX9_countOf 119 = .ok (.aload_n 0, 1) := by decide +kernel
theorem dX9_countOf_120 : decode cX9_countOf 120 = .ok (.getfield 97, 3) := by decide +kernel
theorem dX9_countOf_123 : decode cX9_countOf 123 = .ok (.ireturn, 1) := by decide +kernel
theorem dX9_countOf_124 : decode cX9_countOf 124 = .ok (.bipush (-102), 2) := by decide +kernel
theorem dX9_countOf_126 : decode cX9_countOf 126 = .ok (.ireturn, 1) := by decide +kernel
theorem dX9_count_0 : decode cX9_count 0 = .ok (.aload_n 0, 1) := by decide +kernel
theorem dX9_count_1 : decode cX9_count 1 = .ok (.iload_n 1, 1) := by decide +kernel
theorem dX9_count_2 : decode cX9_count 2 = .ok (.invokevirtual 243, 3) := by decide +kernel
theorem dX9_count_5 : decode cX9_count 5 = .ok (.ireturn, 1) := by decide +kernel
theorem dX9_say_0 : decode cX9_say 0 = .ok (.aload_n 0, 1) := by decide +kernel
theorem dX9_say_1 : decode cX9_say 1 = .ok (.ldc2_w 246, 3) := by decide +kernel
theorem dX9_say_4 : decode cX9_say 4 = .ok (.aload_n 0, 1) := by decide +kernel
theorem dX9_say_5 : decode cX9_say 5 = .ok (.getfield 248, 3) := by decide +kernel
theorem dX9_say_8 : decode cX9_say 8 = .ok (.lmul, 1) := by decide +kernel
theorem dX9_say_9 : decode cX9_say 9 = .ok (.lload_n 1, 1) := by decide +kernel
theorem dX9_say_10 : decode cX9_say 10 = .ok (.ladd, 1) := by decide +kernel
theorem dX9_say_11 : decode cX9_say 11 = .ok (.putfield 248, 3) := by decide +kernel
theorem dX9_say_14 : decode cX9_say 14 = .ok (.return_, 1) := by decide +kernel
theorem dX9_digest_0 : decode cX9_digest 0 = .ok (.aload_n 0, 1) := by decide +kernel
theorem dX9_digest_1 : decode cX9_digest 1 = .ok (.ldc2_w 252, 3) := by decide +kernel
theorem dX9_digest_4 : decode cX9_digest 4 = .ok (.putfield 248, 3) := by decide +kernel
theorem dX9_digest_7 : decode cX9_digest 7 = .ok (.iconst 0, 1) := by decide +kernel
theorem dX9_digest_8 : decode cX9_digest 8 = .ok (.istore_n 1, 1) := by decide +kernel
theorem dX9_digest_9 : decode cX9_digest 9 = .ok (.iload_n 1, 1) := by decide +kernel
theorem dX9_digest_10 : decode cX9_digest 10 = .ok (.aload_n 0, 1) := by decide +kernel
theorem dX9_digest_11 : decode cX9_digest 11 = .ok (.getfield 91, 3) := by decide +kernel
theorem dX9_digest_14 : decode cX9_digest 14 = .ok (.if_icmp .ge 34, 3) := by decide +kernel
theorem dX9_digest_17 : decode cX9_digest 17 = .ok (.iconst 0, 1) := by decide +kernel
theorem dX9_digest_18 : decode cX9_digest 18 = .ok (.istore_n 2, 1) := by decide +kernel
theorem dX9_digest_19 : decode cX9_digest 19 = .ok (.iload_n 2, 1) := by decide +kernel
theorem dX9_digest_20 : decode cX9_digest 20 = .ok (.bipush 6, 2) := by decide +kernel
theorem dX9_digest_22 : decode cX9_digest 22 = .ok (.if_icmp .ge 20, 3) := by decide +kernel
theorem dX9_digest_25 : decode cX9_digest 25 = .ok (.aload_n 0, 1) := by decide +kernel
theorem dX9_digest_26 : decode cX9_digest 26 = .ok (.aload_n 0, 1) := by decide +kernel
theorem dX9_digest_27 : decode cX9_digest 27 = .ok (.iload_n 1, 1) := by decide +kernel
theorem dX9_digest_28 : decode cX9_digest 28 = .ok (.iload_n 2, 1) := by decide +kernel
theorem dX9_digest_29 : decode cX9_digest 29 = .ok (.invokevirtual 105, 3) := by decide +kernel
theorem dX9_digest_32 : decode cX9_digest 32 = .ok (.i2l, 1) := by decide +kernel
theorem dX9_digest_33 : decode cX9_digest 33 = .ok (.invokevirtual 254, 3) := by decide +kernel
theorem dX9_digest_36 : decode cX9_digest 36 = .ok (.iinc 2 1, 3) := by decide +kernel
theorem dX9_digest_39 : decode cX9_digest 39 = .ok (.goto (-20), 3) := by decide +kernel
theorem dX9_digest_42 : decode cX9_digest 42 = .ok (.iinc 1 1, 3) := by decide +kernel
theorem dX9_digest_45 : decode cX9_digest 45 = .ok (.goto (-36), 3) := by decide +kernel
theorem dX9_digest_48 : decode cX9_digest 48 = .ok (.iconst 0, 1) := by decide +kernel
theorem dX9_digest_49 : decode cX9_digest 49 = .ok (.istore_n 1, 1) := by decide +kernel
theorem dX9_digest_50 : decode cX9_digest 50 = .ok (.iload_n 1, 1) := by decide +kernel
theorem dX9_digest_51 : decode cX9_digest 51 = .ok (.bipush 8, 2) := by decide +kernel
theorem dX9_digest_53 : decode cX9_digest 53 = .ok (.if_icmp .ge 43, 3) := by decide +kernel
theorem dX9_digest_56 : decode cX9_digest 56 = .ok (.aload_n 0, 1) := by decide +kernel
theorem dX9_digest_57 : decode cX9_digest 57 = .ok (.aload_n 0, 1) := by decide +kernel
theorem dX9_digest_58 : decode cX9_digest 58 = .ok (.getfield 22, 3) := by decide +kernel
theorem dX9_digest_61 : decode cX9_digest 61 = .ok (.iload_n 1, 1) := by decide +kernel
theorem dX9_digest_62 : decode cX9_digest 62 = .ok (.iaload, 1) := by decide +kernel
theorem dX9_digest_63 : decode cX9_digest 63 = .ok (.i2l, 1) := by decide +kernel
theorem dX9_digest_64 : decode cX9_digest 64 = .ok (.invokevirtual 254, 3) := by decide +kernel
theorem dX9_digest_67 : decode cX9_digest 67 = .ok (.aload_n 0, 1) := by decide +kernel
theorem dX9_digest_68 : decode cX9_digest 68 = .ok (.aload_n 0, 1) := by decide +kernel
theorem dX9_digest_69 : decode cX9_digest 69 = .ok (.getfield 119, 3) := by decide +kernel
theorem dX9_digest_72 : decode cX9_digest 72 = .ok (.iload_n 1, 1) := by decide +kernel
theorem dX9_digest_73 : decode cX9_digest 73 = .ok (.ishr, 1) := by decide +kernel
theorem dX9_digest_74 : decode cX9_digest 74 = .ok (.iconst 1, 1) := by decide +kernel
theorem dX9_digest_75 : decode cX9_digest 75 = .ok (.iand, 1) := by decide +kernel
theorem dX9_digest_76 : decode cX9_digest 76 = .ok (.i2l, 1) := by decide +kernel
theorem dX9_digest_77 : decode cX9_digest 77 = .ok (.invokevirtual 254, 3) := by decide +kernel
theorem dX9_digest_80 : decode cX9_digest 80 = .ok (.aload_n 0, 1) := by decide +kernel
theorem dX9_digest_81 : decode cX9_digest 81 = .ok (.aload_n 0, 1) := by decide +kernel
theorem dX9_digest_82 : decode cX9_digest 82 = .ok (.iload_n 1, 1) := by decide +kernel
theorem dX9_digest_83 : decode cX9_digest 83 = .ok (.invokevirtual 127, 3) := by decide +kernel
theorem dX9_digest_86 : decode cX9_digest 86 = .ok (.i2l, 1) := by decide +kernel
theorem dX9_digest_87 : decode cX9_digest 87 = .ok (.invokevirtual 254, 3) := by decide +kernel
theorem dX9_digest_90 : decode cX9_digest 90 = .ok (.iinc 1 1, 3) := by decide +kernel
theorem dX9_digest_93 : decode cX9_digest 93 = .ok (.goto (-43), 3) := by decide +kernel
theorem dX9_digest_96 : decode cX9_digest 96 = .ok (.iconst 0, 1) := by decide +kernel
theorem dX9_digest_97 : decode cX9_digest 97 = .ok (.istore_n 1, 1) := by decide +kernel
theorem dX9_digest_98 : decode cX9_digest 98 = .ok (.iload_n 1, 1) := by decide +kernel
theorem dX9_digest_99 : decode cX9_digest 99 = .ok (.iconst 4, 1) := by decide +kernel
theorem dX9_digest_100 : decode cX9_digest 100 = .ok (.aload_n 0, 1) := by decide +kernel
theorem dX9_digest_101 : decode cX9_digest 101 = .ok (.getfield 113, 3) := by decide +kernel
theorem dX9_digest_104 : decode cX9_digest 104 = .ok (.imul, 1) := by decide +kernel
theorem dX9_digest_105 : decode cX9_digest 105 = .ok (.if_icmp .ge 20, 3) := by decide +kernel
theorem dX9_digest_108 : decode cX9_digest 108 = .ok (.aload_n 0, 1) := by decide +kernel
theorem dX9_digest_109 : decode cX9_digest 109 = .ok (.aload_n 0, 1) := by decide +kernel
theorem dX9_digest_110 : decode cX9_digest 110 = .ok (.getfield 25, 3) := by decide +kernel
theorem dX9_digest_113 : decode cX9_digest 113 = .ok (.iload_n 1, 1) := by decide +kernel
theorem dX9_digest_114 : decode cX9_digest 114 = .ok (.iaload, 1) := by decide +kernel
theorem dX9_digest_115 : decode cX9_digest 115 = .ok (.i2l, 1) := by decide +kernel
theorem dX9_digest_116 : decode cX9_digest 116 = .ok (.invokevirtual 254, 3) := by decide +kernel
theorem dX9_digest_119 : decode cX9_digest 119 = .ok (.iinc 1 1, 3) := by decide +kernel
theorem dX9_digest_122 : decode cX9_digest 122 = .ok (.goto (-24), 3) := by decide +kernel
theorem dX9_digest_125 : decode cX9_digest 125 = .ok (.aload_n 0, 1) := by decide +kernel
theorem dX9_digest_126 : decode cX9_digest 126 = .ok (.aload_n 0, 1) := by decide +kernel
theorem dX9_digest_127 : decode cX9_digest 127 = .ok (.invokevirtual 208, 3) := by decide +kernel
theorem dX9_digest_130 : decode cX9_digest 130 = .ok (.i2l, 1) := by decide +kernel
theorem dX9_digest_131 : decode cX9_digest 131 = .ok (.invokevirtual 254, 3) := by decide +kernel
theorem dX9_digest_134 : decode cX9_digest 134 = .ok (.aload_n 0, 1) := by decide +kernel
theorem dX9_digest_135 : decode cX9_digest 135 = .ok (.invokevirtual 147, 3) := by decide +kernel
theorem dX9_digest_138 : decode cX9_digest 138 = .ok (.ifCond .ne 59, 3) := by decide +kernel
theorem dX9_digest_141 : decode cX9_digest 141 = .ok (.aload_n 0, 1) := by decide +kernel
theorem dX9_digest_142 : decode cX9_digest 142 = .ok (.aload_n 0, 1) := by decide +kernel
theorem dX9_digest_143 : decode cX9_digest 143 = .ok (.invokevirtual 193, 3) := by decide +kernel
theorem dX9_digest_146 : decode cX9_digest 146 = .ok (.i2l, 1) := by decide +kernel
theorem dX9_digest_147 : decode cX9_digest 147 = .ok (.invokevirtual 254, 3) := by decide +kernel
theorem dX9_digest_150 : decode cX9_digest 150 = .ok (.aload_n 0, 1) := by decide +kernel
theorem dX9_digest_151 : decode cX9_digest 151 = .ok (.aload_n 0, 1) := by decide +kernel
theorem dX9_digest_152 : decode cX9_digest 152 = .ok (.invokevirtual 199, 3) := by decide +kernel
theorem dX9_digest_155 : decode cX9_digest 155 = .ok (.i2l, 1) := by decide +kernel
theorem dX9_digest_156 : decode cX9_digest 156 = .ok (.invokevirtual 254, 3) := by decide +kernel
theorem dX9_digest_159 : decode cX9_digest 159 = .ok (.iconst 0, 1) := by decide +kernel
theorem dX9_digest_160 : decode cX9_digest 160 = .ok (.istore_n 1, 1) := by decide +kernel
theorem dX9_digest_161 : decode cX9_digest 161 = .ok (.iload_n 1, 1) := by decide +kernel
theorem dX9_digest_162 : decode cX9_digest 162 = .ok (.bipush 8, 2) := by decide +kernel
theorem dX9_digest_164 : decode cX9_digest 164 = .ok (.if_icmp .ge 33, 3) := by decide +kernel
theorem dX9_digest_167 : decode cX9_digest 167 = .ok (.aload_n 0, 1) := by decide +kernel
theorem dX9_digest_168 : decode cX9_digest 168 = .ok (.aload_n 0, 1) := by decide +kernel
theorem dX9_digest_169 : decode cX9_digest 169 = .ok (.iload_n 1, 1) := by decide +kernel
theorem dX9_digest_170 : decode cX9_digest 170 = .ok (.iconst 3, 1) := by decide +kernel
theorem dX9_digest_171 : decode cX9_digest 171 = .ok (.iconst 0, 1) := by decide +kernel
theorem dX9_digest_172 : decode cX9_digest 172 = .ok (.invokevirtual 189, 3) := by decide +kernel
theorem dX9_digest_175 : decode cX9_digest 175 = .ok (.i2l, 1) := by decide +kernel
theorem dX9_digest_176 : decode cX9_digest 176 = .ok (.invokevirtual 254, 3) := by decide +kernel
theorem dX9_digest_179 : decode cX9_digest 179 = .ok (.aload_n 0, 1) := by decide +kernel
theorem dX9_digest_180 : decode cX9_digest 180 = .ok (.aload_n 0, 1) := by decide +kernel
theorem dX9_digest_181 : decode cX9_digest 181 = .ok (.iload_n 1, 1) := by decide +kernel
theorem dX9_digest_182 : decode cX9_digest 182 = .ok (.iconst 3, 1) := by decide +kernel
theorem dX9_digest_183 : decode cX9_digest 183 = .ok (.iconst 1, 1) := by decide +kernel
theorem dX9_digest_184 : decode cX9_digest 184 = .ok (.invokevirtual 189, 3) := by decide +kernel
theorem dX9_digest_187 : decode cX9_digest 187 = .ok (.i2l, 1) := by decide +kernel
theorem dX9_digest_188 : decode cX9_digest 188 = .ok (.invokevirtual 254, 3) := by decide +kernel
theorem dX9_digest_191 : decode cX9_digest 191 = .ok (.iinc 1 1, 3) := by decide +kernel
theorem dX9_digest_194 : decode cX9_digest 194 = .ok (.goto (-33), 3) := by decide +kernel
theorem dX9_digest_197 : decode cX9_digest 197 = .ok (.iconst 0, 1) := by decide +kernel
theorem dX9_digest_198 : decode cX9_digest 198 = .ok (.istore_n 1, 1) := by decide +kernel
theorem dX9_digest_199 : decode cX9_digest 199 = .ok (.iload_n 1, 1) := by decide +kernel
theorem dX9_digest_200 : decode cX9_digest 200 = .ok (.aload_n 0, 1) := by decide +kernel
theorem dX9_digest_201 : decode cX9_digest 201 = .ok (.getfield 59, 3) := by decide +kernel
theorem dX9_digest_204 : decode cX9_digest 204 = .ok (.if_icmp .ge 20, 3) := by decide +kernel
theorem dX9_digest_207 : decode cX9_digest 207 = .ok (.aload_n 0, 1) := by decide +kernel
theorem dX9_digest_208 : decode cX9_digest 208 = .ok (.aload_n 0, 1) := by decide +kernel
theorem dX9_digest_209 : decode cX9_digest 209 = .ok (.getfield 7, 3) := by decide +kernel
theorem dX9_digest_212 : decode cX9_digest 212 = .ok (.iload_n 1, 1) := by decide +kernel
theorem dX9_digest_213 : decode cX9_digest 213 = .ok (.iaload, 1) := by decide +kernel
theorem dX9_digest_214 : decode cX9_digest 214 = .ok (.i2l, 1) := by decide +kernel
theorem dX9_digest_215 : decode cX9_digest 215 = .ok (.invokevirtual 254, 3) := by decide +kernel
theorem dX9_digest_218 : decode cX9_digest 218 = .ok (.iinc 1 1, 3) := by decide +kernel
theorem dX9_digest_221 : decode cX9_digest 221 = .ok (.goto (-22), 3) := by decide +kernel
theorem dX9_digest_224 : decode cX9_digest 224 = .ok (.iconst 0, 1) := by decide +kernel
theorem dX9_digest_225 : decode cX9_digest 225 = .ok (.istore_n 1, 1) := by decide +kernel
theorem dX9_digest_226 : decode cX9_digest 226 = .ok (.iload_n 1, 1) := by decide +kernel
theorem dX9_digest_227 : decode cX9_digest 227 = .ok (.bipush 7, 2) := by decide +kernel
theorem dX9_digest_229 : decode cX9_digest 229 = .ok (.if_icmp .ge 19, 3) := by decide +kernel
theorem dX9_digest_232 : decode cX9_digest 232 = .ok (.aload_n 0, 1) := by decide +kernel
theorem dX9_digest_233 : decode cX9_digest 233 = .ok (.aload_n 0, 1) := by decide +kernel
theorem dX9_digest_234 : decode cX9_digest 234 = .ok (.iload_n 1, 1) := by decide +kernel
theorem dX9_digest_235 : decode cX9_digest 235 = .ok (.invokevirtual 243, 3) := by decide +kernel
theorem dX9_digest_238 : decode cX9_digest 238 = .ok (.i2l, 1) := by decide +kernel
theorem dX9_digest_239 : decode cX9_digest 239 = .ok (.invokevirtual 254, 3) := by decide +kernel
theorem dX9_digest_242 : decode cX9_digest 242 = .ok (.iinc 1 1, 3) := by decide +kernel
theorem dX9_digest_245 : decode cX9_digest 245 = .ok (.goto (-19), 3) := by decide +kernel
theorem dX9_digest_248 : decode cX9_digest 248 = .ok (.aload_n 0, 1) := by decide +kernel
theorem dX9_digest_249 : decode cX9_digest 249 = .ok (.getfield 248, 3) := by decide +kernel
theorem dX9_digest_252 : decode cX9_digest 252 = .ok (.lreturn, 1) := by decide +kernel
theorem dJ6_numberOfTrailingZeros_0f7a4_0 : decode cJ6_numberOfTrailingZeros_0f7a4 0 = .ok (.iload_n 0, 1) := by decide +kernel
theorem dJ6_numberOfTrailingZeros_0f7a4_1 : decode cJ6_numberOfTrailingZeros_0f7a4 1 = .ok (.iconst (-1), 1) := by decide +kernel
theorem dJ6_numberOfTrailingZeros_0f7a4_2 : decode cJ6_numberOfTrailingZeros_0f7a4 2 = .ok (.ixor, 1) := by decide +kernel
theorem dJ6_numberOfTrailingZeros_0f7a4_3 : decode cJ6_numberOfTrailingZeros_0f7a4 3 = .ok (.iload_n 0, 1) := by decide +kernel
theorem dJ6_numberOfTrailingZeros_0f7a4_4 : decode cJ6_numberOfTrailingZeros_0f7a4 4 = .ok (.iconst 1, 1) := by decide +kernel
theorem dJ6_numberOfTrailingZeros_0f7a4_5 : decode cJ6_numberOfTrailingZeros_0f7a4 5 = .ok (.isub, 1) := by decide +kernel
theorem dJ6_numberOfTrailingZeros_0f7a4_6 : decode cJ6_numberOfTrailingZeros_0f7a4 6 = .ok (.iand, 1) := by decide +kernel
theorem dJ6_numberOfTrailingZeros_0f7a4_7 : decode cJ6_numberOfTrailingZeros_0f7a4 7 = .ok (.istore_n 0, 1) := by decide +kernel
theorem dJ6_numberOfTrailingZeros_0f7a4_8 : decode cJ6_numberOfTrailingZeros_0f7a4 8 = .ok (.iload_n 0, 1) := by decide +kernel
theorem dJ6_numberOfTrailingZeros_0f7a4_9 : decode cJ6_numberOfTrailingZeros_0f7a4 9 = .ok (.ifCond .gt 8, 3) := by decide +kernel
theorem dJ6_numberOfTrailingZeros_0f7a4_12 : decode cJ6_numberOfTrailingZeros_0f7a4 12 = .ok (.iload_n 0, 1) := by decide +kernel
theorem dJ6_numberOfTrailingZeros_0f7a4_13 : decode cJ6_numberOfTrailingZeros_0f7a4 13 = .ok (.bipush 32, 2) := by decide +kernel
theorem dJ6_numberOfTrailingZeros_0f7a4_15 : decode cJ6_numberOfTrailingZeros_0f7a4 15 = .ok (.iand, 1) := by decide +kernel
theorem dJ6_numberOfTrailingZeros_0f7a4_16 : decode cJ6_numberOfTrailingZeros_0f7a4 16 = .ok (.ireturn, 1) := by decide +kernel
theorem dJ6_numberOfTrailingZeros_0f7a4_17 : decode cJ6_numberOfTrailingZeros_0f7a4 17 = .ok (.iconst 1, 1) := by decide +kernel
theorem dJ6_numberOfTrailingZeros_0f7a4_18 : decode cJ6_numberOfTrailingZeros_0f7a4 18 = .ok (.istore_n 1, 1) := by decide +kernel
theorem dJ6_numberOfTrailingZeros_0f7a4_19 : decode cJ6_numberOfTrailingZeros_0f7a4 19 = .ok (.iload_n 0, 1) := by decide +kernel
theorem dJ6_numberOfTrailingZeros_0f7a4_20 : decode cJ6_numberOfTrailingZeros_0f7a4 20 = .ok (.ldc_w 264, 3) := by decide +kernel
theorem dJ6_numberOfTrailingZeros_0f7a4_23 : decode cJ6_numberOfTrailingZeros_0f7a4 23 = .ok (.if_icmp .le 11, 3) := by decide +kernel
theorem dJ6_numberOfTrailingZeros_0f7a4_26 : decode cJ6_numberOfTrailingZeros_0f7a4 26 = .ok (.iinc 1 16, 3) := by decide +kernel
theorem dJ6_numberOfTrailingZeros_0f7a4_29 : decode cJ6_numberOfTrailingZeros_0f7a4 29 = .ok (.iload_n 0, 1) := by decide +kernel
theorem dJ6_numberOfTrailingZeros_0f7a4_30 : decode cJ6_numberOfTrailingZeros_0f7a4 30 = .ok (.bipush 16, 2) := by decide +kernel
theorem dJ6_numberOfTrailingZeros_0f7a4_32 : decode cJ6_numberOfTrailingZeros_0f7a4 32 = .ok (.iushr, 1) := by decide +kernel
theorem dJ6_numberOfTrailingZeros_0f7a4_33 : decode cJ6_numberOfTrailingZeros_0f7a4 33 = .ok (.istore_n 0, 1) := by decide +kernel
theorem dJ6_numberOfTrailingZeros_0f7a4_34 : decode cJ6_numberOfTrailingZeros_0f7a4 34 = .ok (.iload_n 0, 1) := by decide +kernel
theorem dJ6_numberOfTrailingZeros_0f7a4_35 : decode cJ6_numberOfTrailingZeros_0f7a4 35 = .ok (.sipush 256, 3) := by decide +kernel
theorem dJ6_numberOfTrailingZeros_0f7a4_38 : decode cJ6_numberOfTrailingZeros_0f7a4 38 = .ok (.if_icmp .le 11, 3) := by decide +kernel
theorem dJ6_numberOfTrailingZeros_0f7a4_41 : decode cJ6_numberOfTrailingZeros_0f7a4 41 = .ok (.iinc 1 8, 3) := by decide +kernel
theorem dJ6_numberOfTrailingZeros_0f7a4_44 : decode cJ6_numberOfTrailingZeros_0f7a4 44 = .ok (.iload_n 0, 1) := by decide +kernel
theorem dJ6_numberOfTrailingZeros_0f7a4_45 : decode cJ6_numberOfTrailingZeros_0f7a4 45 = .ok (.bipush 8, 2) := by decide +kernel
theorem dJ6_numberOfTrailingZeros_0f7a4_47 : decode cJ6_numberOfTrailingZeros_0f7a4 47 = .ok (.iushr, 1) := by decide +kernel
theorem dJ6_numberOfTrailingZeros_0f7a4_48 : decode cJ6_numberOfTrailingZeros_0f7a4 48 = .ok (.istore_n 0, 1) := by decide +kernel
theorem dJ6_numberOfTrailingZeros_0f7a4_49 : decode cJ6_numberOfTrailingZeros_0f7a4 49 = .ok (.iload_n 0, 1) := by decide +kernel
theorem dJ6_numberOfTrailingZeros_0f7a4_50 : decode cJ6_numberOfTrailingZeros_0f7a4 50 = .ok (.bipush 16, 2) := by decide +kernel
theorem dJ6_numberOfTrailingZeros_0f7a4_52 : decode cJ6_numberOfTrailingZeros_0f7a4 52 = .ok (.if_icmp .le 10, 3) := by decide +kernel
theorem dJ6_numberOfTrailingZeros_0f7a4_55 : decode cJ6_numberOfTrailingZeros_0f7a4 55 = .ok (.iinc 1 4, 3) := by decide +kernel
theorem dJ6_numberOfTrailingZeros_0f7a4_58 : decode cJ6_numberOfTrailingZeros_0f7a4 58 = .ok (.iload_n 0, 1) := by decide +kernel
theorem dJ6_numberOfTrailingZeros_0f7a4_59 : decode cJ6_numberOfTrailingZeros_0f7a4 59 = .ok (.iconst 4, 1) := by decide +kernel
theorem dJ6_numberOfTrailingZeros_0f7a4_60 : decode cJ6_numberOfTrailingZeros_0f7a4 60 = .ok (.iushr, 1) := by decide +kernel
theorem dJ6_numberOfTrailingZeros_0f7a4_61 : decode cJ6_numberOfTrailingZeros_0f7a4 61 = .ok (.istore_n 0, 1) := by decide +kernel
theorem dJ6_numberOfTrailingZeros_0f7a4_62 : decode cJ6_numberOfTrailingZeros_0f7a4 62 = .ok (.iload_n 0, 1) := by decide +kernel
theorem dJ6_numberOfTrailingZeros_0f7a4_63 : decode cJ6_numberOfTrailingZeros_0f7a4 63 = .ok (.iconst 4, 1) := by decide +kernel
theorem dJ6_numberOfTrailingZeros_0f7a4_64 : decode cJ6_numberOfTrailingZeros_0f7a4 64 = .ok (.if_icmp .le 10, 3) := by decide +kernel
theorem dJ6_numberOfTrailingZeros_0f7a4_67 : decode cJ6_numberOfTrailingZeros_0f7a4 67 = .ok (.iinc 1 2, 3) := by decide +kernel
theorem dJ6_numberOfTrailingZeros_0f7a4_70 : decode cJ6_numberOfTrailingZeros_0f7a4 70 = .ok (.iload_n 0, 1) := by decide +kernel
theorem dJ6_numberOfTrailingZeros_0f7a4_71 : decode cJ6_numberOfTrailingZeros_0f7a4 71 = .ok (.iconst 2, 1) := by decide +kernel
theorem dJ6_numberOfTrailingZeros_0f7a4_72 : decode cJ6_numberOfTrailingZeros_0f7a4 72 = .ok (.iushr, 1) := by decide +kernel
theorem dJ6_numberOfTrailingZeros_0f7a4_73 : decode cJ6_numberOfTrailingZeros_0f7a4 73 = .ok (.istore_n 0, 1) := by decide +kernel
theorem dJ6_numberOfTrailingZeros_0f7a4_74 : decode cJ6_numberOfTrailingZeros_0f7a4 74 = .ok (.iload_n 1, 1) := by decide +kernel
theorem dJ6_numberOfTrailingZeros_0f7a4_75 : decode cJ6_numberOfTrailingZeros_0f7a4 75 = .ok (.iload_n 0, 1) := by decide +kernel
