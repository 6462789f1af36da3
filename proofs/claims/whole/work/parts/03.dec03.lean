theorem dX8_restore_18 : decode cX8_restore 18 = .ok (.aload_n 0, 1) := by decide +kernel
theorem dX8_restore_19 : decode cX8_restore 19 = .ok (.getfield 79, 3) := by decide +kernel
theorem dX8_restore_22 : decode cX8_restore 22 = .ok (.aload_n 0, 1) := by decide +kernel
theorem dX8_restore_23 : decode cX8_restore 23 = .ok (.getfield 66, 3) := by decide +kernel
theorem dX8_restore_26 : decode cX8_restore 26 = .ok (.if_icmp .eq 6, 3) := by decide +kernel
theorem dX8_restore_29 : decode cX8_restore 29 = .ok (.bipush (-103), 2) := by decide +kernel
theorem dX8_restore_31 : decode cX8_restore 31 = .ok (.ireturn, 1) := by decide +kernel
theorem dX8_restore_32 : decode cX8_restore 32 = .ok (.aload_n 0, 1) := by decide +kernel
theorem dX8_restore_33 : decode cX8_restore 33 = .ok (.getfield 39, 3) := by decide +kernel
theorem dX8_restore_36 : decode cX8_restore 36 = .ok (.aload_n 0, 1) := by decide +kernel
theorem dX8_restore_37 : decode cX8_restore 37 = .ok (.getfield 43, 3) := by decide +kernel
theorem dX8_restore_40 : decode cX8_restore 40 = .ok (.invokevirtual 188, 3) := by decide +kernel
theorem dX8_restore_43 : decode cX8_restore 43 = .ok (.aload_n 0, 1) := by decide +kernel
theorem dX8_restore_44 : decode cX8_restore 44 = .ok (.getfield 66, 3) := by decide +kernel
theorem dX8_restore_47 : decode cX8_restore 47 = .ok (.ireturn, 1) := by decide +kernel
theorem dX8_count_0 : decode cX8_count 0 = .ok (.iload_n 1, 1) := by decide +kernel
theorem dX8_count_1 : decode cX8_count 1 = .ok (.tableswitch 87 0 6 #[43, 48, 53, 61, 69, 77, 82], 43) := by decide +kernel
theorem dX8_count_44 : decode cX8_count 44 = .ok (.aload_n 0, 1) := by decide +kernel
theorem dX8_count_45 : decode cX8_count 45 = .ok (.getfield 62, 3) := by decide +kernel
theorem dX8_count_48 : decode cX8_count 48 = .ok (.ireturn, 1) := by decide +kernel
theorem dX8_count_49 : decode cX8_count 49 = .ok (.aload_n 0, 1) := by decide +kernel
theorem dX8_count_50 : decode cX8_count 50 = .ok (.getfield 66, 3) := by decide +kernel
theorem dX8_count_53 : decode cX8_count 53 = .ok (.ireturn, 1) := by decide +kernel
theorem dX8_count_54 : decode cX8_count 54 = .ok (.aload_n 0, 1) := by decide +kernel
theorem dX8_count_55 : decode cX8_count 55 = .ok (.getfield 39, 3) := by decide +kernel
theorem dX8_count_58 : decode cX8_count 58 = .ok (.getfield 182, 3) := by decide +kernel
theorem dX8_count_61 : decode cX8_count 61 = .ok (.ireturn, 1) := by decide +kernel
theorem dX8_count_62 : decode cX8_count 62 = .ok (.aload_n 0, 1) := by decide +kernel
theorem dX8_count_63 : decode cX8_count 63 = .ok (.getfield 39, 3) := by decide +kernel
theorem dX8_count_66 : decode cX8_count 66 = .ok (.getfield 179, 3) := by decide +kernel
theorem dX8_count_69 : decode cX8_count 69 = .ok (.ireturn, 1) := by decide +kernel
theorem dX8_count_70 : decode cX8_count 70 = .ok (.aload_n 0, 1) := by decide +kernel
theorem dX8_count_71 : decode cX8_count 71 = .ok (.getfield 12, 3) := by decide +kernel
theorem dX8_count_74 : decode cX8_count 74 = .ok (.getfield 89, 3) := by decide +kernel
theorem dX8_count_77 : decode cX8_count 77 = .ok (.ireturn, 1) := by decide +kernel
theorem dX8_count_78 : decode cX8_count 78 = .ok (.aload_n 0, 1) := by decide +kernel
theorem dX8_count_79 : decode cX8_count 79 = .ok (.invokevirtual 248, 3) := by decide +kernel
theorem dX8_count_82 : decode cX8_count 82 = .ok (.ireturn, 1) := by decide +kernel
theorem dX8_count_83 : decode cX8_count 83 = .ok (.aload_n 0, 1) := by decide +kernel
theorem dX8_count_84 : decode cX8_count 84 = .ok (.getfield 69, 3) := by decide +kernel
theorem dX8_count_87 : decode cX8_count 87 = .ok (.ireturn, 1) := by decide +kernel
theorem dX8_count_88 : decode cX8_count 88 = .ok (.bipush (-102), 2) := by decide +kernel
theorem dX8_count_90 : decode cX8_count 90 = .ok (.ireturn, 1) := by decide +kernel
theorem dX8_digest_0 : decode cX8_digest 0 = .ok (.aload_n 0, 1) := by decide +kernel
theorem dX8_digest_1 : decode cX8_digest 1 = .ok (.ldc2_w 251, 3) := by decide +kernel
theorem dX8_digest_4 : decode cX8_digest 4 = .ok (.invokevirtual 253, 3) := by decide +kernel
theorem dX8_digest_7 : decode cX8_digest 7 = .ok (.lstore_n 1, 1) := by decide +kernel
theorem dX8_digest_8 : decode cX8_digest 8 = .ok (.aload_n 0, 1) := by decide +kernel
theorem dX8_digest_9 : decode cX8_digest 9 = .ok (.lload_n 1, 1) := by decide +kernel
theorem dX8_digest_10 : decode cX8_digest 10 = .ok (.invokevirtual 257, 3) := by decide +kernel
theorem dX8_digest_13 : decode cX8_digest 13 = .ok (.lstore_n 1, 1) := by decide +kernel
theorem dX8_digest_14 : decode cX8_digest 14 = .ok (.aload_n 0, 1) := by decide +kernel
theorem dX8_digest_15 : decode cX8_digest 15 = .ok (.lload_n 1, 1) := by decide +kernel
theorem dX8_digest_16 : decode cX8_digest 16 = .ok (.invokevirtual 260, 3) := by decide +kernel
theorem dX8_digest_19 : decode cX8_digest 19 = .ok (.lstore_n 1, 1) := by decide +kernel
theorem dX8_digest_20 : decode cX8_digest 20 = .ok (.lload_n 1, 1) := by decide +kernel
theorem dX8_digest_21 : decode cX8_digest 21 = .ok (.aload_n 0, 1) := by decide +kernel
theorem dX8_digest_22 : decode cX8_digest 22 = .ok (.invokevirtual 263, 3) := by decide +kernel
theorem dX8_digest_25 : decode cX8_digest 25 = .ok (.i2l, 1) := by decide +kernel
theorem dX8_digest_26 : decode cX8_digest 26 = .ok (.invokestatic 266, 3) := by decide +kernel
theorem dX8_digest_29 : decode cX8_digest 29 = .ok (.lstore_n 1, 1) := by decide +kernel
theorem dX8_digest_30 : decode cX8_digest 30 = .ok (.aload_n 0, 1) := by decide +kernel
theorem dX8_digest_31 : decode cX8_digest 31 = .ok (.getfield 62, 3) := by decide +kernel
theorem dX8_digest_34 : decode cX8_digest 34 = .ok (.ifCond .le 9, 3) := by decide +kernel
theorem dX8_digest_37 : decode cX8_digest 37 = .ok (.aload_n 0, 1) := by decide +kernel
theorem dX8_digest_38 : decode cX8_digest 38 = .ok (.lload_n 1, 1) := by decide +kernel
theorem dX8_digest_39 : decode cX8_digest 39 = .ok (.invokevirtual 269, 3) := by decide +kernel
theorem dX8_digest_42 : decode cX8_digest 42 = .ok (.lstore_n 1, 1) := by decide +kernel
theorem dX8_digest_43 : decode cX8_digest 43 = .ok (.iconst 0, 1) := by decide +kernel
theorem dX8_digest_44 : decode cX8_digest 44 = .ok (.istore_n 3, 1) := by decide +kernel
theorem dX8_digest_45 : decode cX8_digest 45 = .ok (.iload_n 3, 1) := by decide +kernel
theorem dX8_digest_46 : decode cX8_digest 46 = .ok (.aload_n 0, 1) := by decide +kernel
theorem dX8_digest_47 : decode cX8_digest 47 = .ok (.getfield 12, 3) := by decide +kernel
theorem dX8_digest_50 : decode cX8_digest 50 = .ok (.getfield 89, 3) := by decide +kernel
theorem dX8_digest_53 : decode cX8_digest 53 = .ok (.if_icmp .ge 24, 3) := by decide +kernel
theorem dX8_digest_56 : decode cX8_digest 56 = .ok (.lload_n 1, 1) := by decide +kernel
theorem dX8_digest_57 : decode cX8_digest 57 = .ok (.aload_n 0, 1) := by decide +kernel
theorem dX8_digest_58 : decode cX8_digest 58 = .ok (.getfield 12, 3) := by decide +kernel
theorem dX8_digest_61 : decode cX8_digest 61 = .ok (.getfield 92, 3) := by decide +kernel
theorem dX8_digest_64 : decode cX8_digest 64 = .ok (.iload_n 3, 1) := by decide +kernel
theorem dX8_digest_65 : decode cX8_digest 65 = .ok (.iaload, 1) := by decide +kernel
theorem dX8_digest_66 : decode cX8_digest 66 = .ok (.i2l, 1) := by decide +kernel
theorem dX8_digest_67 : decode cX8_digest 67 = .ok (.invokestatic 266, 3) := by decide +kernel
theorem dX8_digest_70 : decode cX8_digest 70 = .ok (.lstore_n 1, 1) := by decide +kernel
theorem dX8_digest_71 : decode cX8_digest 71 = .ok (.iinc 3 1, 3) := by decide +kernel
theorem dX8_digest_74 : decode cX8_digest 74 = .ok (.goto (-29), 3) := by decide +kernel
theorem dX8_digest_77 : decode cX8_digest 77 = .ok (.iconst 0, 1) := by decide +kernel
theorem dX8_digest_78 : decode cX8_digest 78 = .ok (.istore_n 3, 1) := by decide +kernel
theorem dX8_digest_79 : decode cX8_digest 79 = .ok (.iload_n 3, 1) := by decide +kernel
theorem dX8_digest_80 : decode cX8_digest 80 = .ok (.bipush 6, 2) := by decide +kernel
theorem dX8_digest_82 : decode cX8_digest 82 = .ok (.if_icmp .gt 20, 3) := by decide +kernel
theorem dX8_digest_85 : decode cX8_digest 85 = .ok (.lload_n 1, 1) := by decide +kernel
theorem dX8_digest_86 : decode cX8_digest 86 = .ok (.aload_n 0, 1) := by decide +kernel
theorem dX8_digest_87 : decode cX8_digest 87 = .ok (.iload_n 3, 1) := by decide +kernel
theorem dX8_digest_88 : decode cX8_digest 88 = .ok (.invokevirtual 272, 3) := by decide +kernel
theorem dX8_digest_91 : decode cX8_digest 91 = .ok (.i2l, 1) := by decide +kernel
theorem dX8_digest_92 : decode cX8_digest 92 = .ok (.invokestatic 266, 3) := by decide +kernel
theorem dX8_digest_95 : decode cX8_digest 95 = .ok (.lstore_n 1, 1) := by decide +kernel
theorem dX8_digest_96 : decode cX8_digest 96 = .ok (.iinc 3 1, 3) := by decide +kernel
theorem dX8_digest_99 : decode cX8_digest 99 = .ok (.goto (-20), 3) := by decide +kernel
theorem dX8_digest_102 : decode cX8_digest 102 = .ok (.lload_n 1, 1) := by decide +kernel
theorem dX8_digest_103 : decode cX8_digest 103 = .ok (.lreturn, 1) := by decide +kernel
theorem dX8_isThief_0 : decode cX8_isThief 0 = .ok (.iload_n 1, 1) := by decide +kernel
theorem dX8_isThief_1 : decode cX8_isThief 1 = .ok (.ifCond .lt 15, 3) := by decide +kernel
theorem dX8_isThief_4 : decode cX8_isThief 4 = .ok (.iload_n 1, 1) := by decide +kernel
theorem dX8_isThief_5 : decode cX8_isThief 5 = .ok (.aload_n 0, 1) := by decide +kernel
theorem dX8_isThief_6 : decode cX8_isThief 6 = .ok (.getfield 62, 3) := by decide +kernel
theorem dX8_isThief_9 : decode cX8_isThief 9 = .ok (.if_icmp .ge 7, 3) := by decide +kernel
theorem dX8_isThief_12 : decode cX8_isThief 12 = .ok (.iconst 1, 1) := by decide +kernel
theorem dX8_isThief_13 : decode cX8_isThief 13 = .ok (.goto 4, 3) := by decide +kernel
theorem dX8_isThief_16 : decode cX8_isThief 16 = .ok (.iconst 0, 1) := by decide +kernel
theorem dX8_isThief_17 : decode cX8_isThief 17 = .ok (.ireturn, 1) := by decide +kernel
theorem dX8_isSpoon_0 : decode cX8_isSpoon 0 = .ok (.iload_n 1, 1) := by decide +kernel
theorem dX8_isSpoon_1 : decode cX8_isSpoon 1 = .ok (.ifCond .lt 15, 3) := by decide +kernel
theorem dX8_isSpoon_4 : decode cX8_isSpoon 4 = .ok (.iload_n 1, 1) := by decide +kernel
theorem dX8_isSpoon_5 : decode cX8_isSpoon 5 = .ok (.aload_n 0, 1) := by decide +kernel
theorem dX8_isSpoon_6 : decode cX8_isSpoon 6 = .ok (.getfield 66, 3) := by decide +kernel
theorem dX8_isSpoon_9 : decode cX8_isSpoon 9 = .ok (.if_icmp .ge 7, 3) := by decide +kernel
theorem dX8_isSpoon_12 : decode cX8_isSpoon 12 = .ok (.iconst 1, 1) := by decide +kernel
theorem dX8_isSpoon_13 : decode cX8_isSpoon 13 = .ok (.goto 4, 3) := by decide +kernel
theorem dX8_isSpoon_16 : decode cX8_isSpoon 16 = .ok (.iconst 0, 1) := by decide +kernel
theorem dX8_isSpoon_17 : decode cX8_isSpoon 17 = .ok (.ireturn, 1) := by decide +kernel
theorem dX8_isHouse_0 : decode cX8_isHouse 0 = .ok (.iload_n 0, 1) := by decide +kernel
theorem dX8_isHouse_1 : decode cX8_isHouse 1 = .ok (.ifCond .lt 13, 3) := by decide +kernel
theorem dX8_isHouse_4 : decode cX8_isHouse 4 = .ok (.iload_n 0, 1) := by decide +kernel
theorem dX8_isHouse_5 : decode cX8_isHouse 5 = .ok (.bipush 8, 2) := by decide +kernel
theorem dX8_isHouse_7 : decode cX8_isHouse 7 = .ok (.if_icmp .ge 7, 3) := by decide +kernel
theorem dX8_isHouse_10 : decode cX8_isHouse 10 = .ok (.iconst 1, 1) := by decide +kernel
theorem dX8_isHouse_11 : decode cX8_isHouse 11 = .ok (.goto 4, 3) := by decide +kernel
theorem dX8_isHouse_14 : decode cX8_isHouse 14 = .ok (.iconst 0, 1) := by decide +kernel
theorem dX8_isHouse_15 : decode cX8_isHouse 15 = .ok (.ireturn, 1) := by decide +kernel
theorem dX8_asNumber_0 : decode cX8_asNumber 0 = .ok (.iload_n 0, 1) := by decide +kernel
theorem dX8_asNumber_1 : decode cX8_asNumber 1 = .ok (.ifCond .eq 7, 3) := by decide +kernel
theorem dX8_asNumber_4 : decode cX8_asNumber 4 = .ok (.iconst 1, 1) := by decide +kernel
theorem dX8_asNumber_5 : decode cX8_asNumber 5 = .ok (.goto 4, 3) := by decide +kernel
theorem dX8_asNumber_8 : decode cX8_asNumber 8 = .ok (.iconst 0, 1) := by decide +kernel
theorem dX8_asNumber_9 : decode cX8_asNumber 9 = .ok (.ireturn, 1) := by decide +kernel
theorem dX8_byteOf_0 : decode cX8_byteOf 0 = .ok (.lload_n 0, 1) := by decide +kernel
theorem dX8_byteOf_1 : decode cX8_byteOf 1 = .ok (.bipush 8, 2) := by decide +kernel
theorem dX8_byteOf_3 : decode cX8_byteOf 3 = .ok (.iload_n 2, 1) := by decide +kernel
theorem dX8_byteOf_4 : decode cX8_byteOf 4 = .ok (.imul, 1) := by decide +kernel
theorem dX8_byteOf_5 : decode cX8_byteOf 5 = .ok (.lushr, 1) := by decide +kernel
theorem dX8_byteOf_6 : decode cX8_byteOf 6 = .ok (.l2i, 1) := by decide +kernel
theorem dX8_byteOf_7 : decode cX8_byteOf 7 = .ok (.sipush 255, 3) := by decide +kernel
theorem dX8_byteOf_10 : decode cX8_byteOf 10 = .ok (.iand, 1) := by decide +kernel
theorem dX8_byteOf_11 : decode cX8_byteOf 11 = .ok (.ireturn, 1) := by decide +kernel
theorem dX8_lettersTold_0 : decode cX8_lettersTold 0 = .ok (.iconst 0, 1) := by decide +kernel
theorem dX8_lettersTold_1 : decode cX8_lettersTold 1 = .ok (.istore_n 2, 1) := by decide +kernel
theorem dX8_lettersTold_2 : decode cX8_lettersTold 2 = .ok (.iconst 0, 1) := by decide +kernel
theorem dX8_lettersTold_3 : decode cX8_lettersTold 3 = .ok (.istore_n 3, 1) := by decide +kernel
theorem dX8_lettersTold_4 : decode cX8_lettersTold 4 = .ok (.iload_n 3, 1) := by decide +kernel
theorem dX8_lettersTold_5 : decode cX8_lettersTold 5 = .ok (.bipush 8, 2) := by decide +kernel
theorem dX8_lettersTold_7 : decode cX8_lettersTold 7 = .ok (.if_icmp .ge 48, 3) := by decide +kernel
theorem dX8_lettersTold_10 : decode cX8_lettersTold 10 = .ok (.lload_n 0, 1) := by decide +kernel
theorem dX8_lettersTold_11 : decode cX8_lettersTold 11 = .ok (.iload_n 3, 1) := by decide +kernel
theorem dX8_lettersTold_12 : decode cX8_lettersTold 12 = .ok (.invokestatic 95, 3) := by decide +kernel
theorem dX8_lettersTold_15 : decode cX8_lettersTold 15 = .ok (.istore 4, 2) := by decide +kernel
theorem dX8_lettersTold_17 : decode cX8_lettersTold 17 = .ok (.iload 4, 2) := by decide +kernel
theorem dX8_lettersTold_19 : decode cX8_lettersTold 19 = .ok (.bipush 126, 2) := by decide +kernel
theorem dX8_lettersTold_21 : decode cX8_lettersTold 21 = .ok (.if_icmp .gt 13, 3) := by decide +kernel
theorem dX8_lettersTold_24 : decode cX8_lettersTold 24 = .ok (.iload 4, 2) := by decide +kernel
theorem dX8_lettersTold_26 : decode cX8_lettersTold 26 = .ok (.ifCond .eq 10, 3) := by decide +kernel
theorem dX8_lettersTold_29 : decode cX8_lettersTold 29 = .ok (.iload_n 2, 1) := by decide +kernel
theorem dX8_lettersTold_30 : decode cX8_lettersTold 30 = .ok (.iload_n 3, 1) := by decide +kernel
theorem dX8_lettersTold_31 : decode cX8_lettersTold 31 = .ok (.if_icmp .ge 5, 3) := by decide +kernel
theorem dX8_lettersTold_34 : decode cX8_lettersTold 34 = .ok (.iconst (-1), 1) := by decide +kernel
theorem dX8_lettersTold_35 : decode cX8_lettersTold 35 = .ok (.ireturn, 1) := by decide +kernel
theorem dX8_lettersTold_36 : decode cX8_lettersTold 36 = .ok (.iload_n 2, 1) := by decide +kernel
theorem dX8_lettersTold_37 : decode cX8_lettersTold 37 = .ok (.iload 4, 2) := by decide +kernel
theorem dX8_lettersTold_39 : decode cX8_lettersTold 39 = .ok (.ifCond .eq 7, 3) := by decide +kernel
theorem dX8_lettersTold_42 : decode cX8_lettersTold 42 = .ok (.iconst 1, 1) := by decide +kernel
theorem dX8_lettersTold_43 : decode cX8_lettersTold 43 = .ok (.goto 4, 3) := by decide +kernel
theorem dX8_lettersTold_46 : decode cX8_lettersTold 46 = .ok (.iconst 0, 1) := by decide +kernel
theorem dX8_lettersTold_47 : decode cX8_lettersTold 47 = .ok (.iadd, 1) := by decide +kernel
theorem dX8_lettersTold_48 : decode cX8_lettersTold 48 = .ok (.istore_n 2, 1) := by decide +kernel
theorem dX8_lettersTold_49 : decode cX8_lettersTold 49 = .ok (.iinc 3 1, 3) := by decide +kernel
theorem dX8_lettersTold_52 : decode cX8_lettersTold 52 = .ok (.goto (-48), 3) := by decide +kernel
theorem dX8_lettersTold_55 : decode cX8_lettersTold 55 = .ok (.iload_n 2, 1) := by decide +kernel
theorem dX8_lettersTold_56 : decode cX8_lettersTold 56 = .ok (.ireturn, 1) := by decide +kernel
theorem dX8_hired_0 : decode cX8_hired 0 = .ok (.iload_n 0, 1) := by decide +kernel
theorem dX8_hired_1 : decode cX8_hired 1 = .ok (.tableswitch 75 1 4 #[31, 42, 53, 64], 31) := by decide +kernel
theorem dX8_hired_32 : decode cX8_hired 32 = .ok (.new 275, 3) := by decide +kernel
theorem dX8_hired_35 : decode cX8_hired 35 = .ok (.dup, 1) := by decide +kernel
theorem dX8_hired_36 : decode cX8_hired 36 = .ok (.iload_n 1, 1) := by decide +kernel
theorem dX8_hired_37 : decode cX8_hired 37 = .ok (.iload_n 2, 1) := by decide +kernel
theorem dX8_hired_38 : decode cX8_hired 38 = .ok (.iload_n 3, 1) := by decide +kernel
theorem dX8_hired_39 : decode cX8_hired 39 = .ok (.invokespecial 277, 3) := by decide +kernel
theorem dX8_hired_42 : decode cX8_hired 42 = .ok (.areturn, 1) := by decide +kernel
theorem dX8_hired_43 : decode cX8_hired 43 = .ok (.new 278, 3) := by decide +kernel
theorem dX8_hired_46 : decode cX8_hired 46 = .ok (.dup, 1) := by decide +kernel
theorem dX8_hired_47 : decode cX8_hired 47 = .ok (.iload_n 1, 1) := by decide +kernel
theorem dX8_hired_48 : decode cX8_hired 48 = .ok (.iload_n 2, 1) := by decide +kernel
theorem dX8_hired_49 : decode cX8_hired 49 = .ok (.iload_n 3, 1) := by decide +kernel
theorem dX8_hired_50 : decode cX8_hired 50 = .ok (.invokespecial 280, 3) := by decide +kernel
theorem dX8_hired_53 : decode cX8_hired 53 = .ok (.areturn, 1) := by decide +kernel
theorem dX8_hired_54 : decode cX8_hired 54 = .ok (.new 281, 3) := by decide +kernel
theorem dX8_hired_57 : decode cX8_hired 57 = .ok (.dup, 1) := by decide +kernel
theorem dX8_hired_58 : decode cX8_hired 58 = .ok (.iload_n 1, 1) := by decide +kernel
theorem dX8_hired_59 : decode cX8_hired 59 = .ok (.iload_n 2, 1) := by decide +kernel
theorem dX8_hired_60 : decode cX8_hired 60 = .ok (.iload_n 3, 1) := by decide +kernel
theorem dX8_hired_61 : decode cX8_hired 61 = .ok (.invokespecial 283, 3) := by decide +kernel
theorem dX8_hired_64 : decode cX8_hired 64 = .ok (.areturn, 1) := by decide +kernel
theorem dX8_hired_65 : decode cX8_hired 65 = .ok (.new 284, 3) := by decide +kernel
theorem dX8_hired_68 : decode cX8_hired 68 = .ok (.dup, 1) := by decide +kernel
theorem dX8_hired_69 : decode cX8_hired 69 = .ok (.iload_n 1, 1) := by decide +kernel
theorem dX8_hired_70 : decode cX8_hired 70 = .ok (.iload_n 2, 1) := by decide +kernel
theorem dX8_hired_71 : decode cX8_hired 71 = .ok (.iload_n 3, 1) := by decide +kernel
theorem dX8_hired_72 : decode cX8_hired 72 = .ok (.invokespecial 286, 3) := by decide +kernel
theorem dX8_hired_75 : decode cX8_hired 75 = .ok (.areturn, 1) := by decide +kernel
theorem dX8_hired_76 : decode cX8_hired 76 = .ok (.new 23, 3) := by decide +kernel
theorem dX8_hired_79 : decode cX8_hired 79 = .ok (.dup, 1) := by decide +kernel
theorem dX8_hired_80 : decode cX8_hired 80 = .ok (.iload_n 1, 1) := by decide +kernel
theorem dX8_hired_81 : decode cX8_hired 81 = .ok (.iload_n 2, 1) := by decide +kernel
theorem dX8_hired_82 : decode cX8_hired 82 = .ok (.iload_n 3, 1) := by decide +kernel
theorem dX8_hired_83 : decode cX8_hired 83 = .ok (.invokespecial 82, 3) := by decide +kernel
theorem dX8_hired_86 : decode cX8_hired 86 = .ok (.areturn, 1) := by decide +kernel
theorem dX8_isOfKind_0 : decode cX8_isOfKind 0 = .ok (.iload_n 1, 1) := by decide +kernel
theorem dX8_isOfKind_1 : decode cX8_isOfKind 1 = .ok (.tableswitch 51 1 4 #[31, 36, 41, 46], 31) := by decide +kernel
theorem dX8_isOfKind_32 : decode cX8_isOfKind 32 = .ok (.aload_n 0, 1) := by decide +kernel
theorem dX8_isOfKind_33 : decode cX8_isOfKind 33 = .ok (.instanceof 275, 3) := by decide +kernel
theorem dX8_isOfKind_36 : decode cX8_isOfKind 36 = .ok (.ireturn, 1) := by decide +kernel
theorem dX8_isOfKind_37 : decode cX8_isOfKind 37 = .ok (.aload_n 0, 1) := by decide +kernel
theorem dX8_isOfKind_38 : decode cX8_isOfKind 38 = .ok (.instanceof 278, 3) := by decide +kernel
theorem dX8_isOfKind_41 : decode cX8_isOfKind 41 = .ok (.ireturn, 1) := by decide +kernel
theorem dX8_isOfKind_42 : decode cX8_isOfKind 42 = .ok (.aload_n 0, 1) := by decide +kernel
theorem dX8_isOfKind_43 : decode cX8_isOfKind 43 = .ok (.instanceof 281, 3) := by decide +kernel
theorem dX8_isOfKind_46 : decode cX8_isOfKind 46 = .ok (.ireturn, 1) := by decide +kernel
theorem dX8_isOfKind_47 : decode cX8_isOfKind 47 = .ok (.aload_n 0, 1) := by decide +kernel
theorem dX8_isOfKind_48 : decode cX8_isOfKind 48 = .ok (.instanceof 284, 3) := by decide +kernel
theorem dX8_isOfKind_51 : decode cX8_isOfKind 51 = .ok (.ireturn, 1) := by decide +kernel
theorem dX8_isOfKind_52 : decode cX8_isOfKind 52 = .ok (.iconst 1, 1) := by decide +kernel
theorem dX8_isOfKind_53 : decode cX8_isOfKind 53 = .ok (.ireturn, 1) := by decide +kernel
theorem dX8_monthWithout_0 : decode cX8_monthWithout 0 = .ok (.iconst 0, 1) := by decide +kernel
theorem dX8_monthWithout_1 : decode cX8_monthWithout 1 = .ok (.istore_n 3, 1) := by decide +kernel
theorem dX8_monthWithout_2 : decode cX8_monthWithout 2 = .ok (.iconst 0, 1) := by decide +kernel
theorem dX8_monthWithout_3 : decode cX8_monthWithout 3 = .ok (.istore 4, 2) := by decide +kernel
theorem dX8_monthWithout_5 : decode cX8_monthWithout 5 = .ok (.iload 4, 2) := by decide +kernel
theorem dX8_monthWithout_7 : decode cX8_monthWithout 7 = .ok (.aload_n 0, 1) := by decide +kernel
theorem dX8_monthWithout_8 : decode cX8_monthWithout 8 = .ok (.getfield 62, 3) := by decide +kernel
theorem dX8_monthWithout_11 : decode cX8_monthWithout 11 = .ok (.if_icmp .ge 29, 3) := by decide +kernel
theorem dX8_monthWithout_14 : decode cX8_monthWithout 14 = .ok (.iload_n 3, 1) := by decide +kernel
theorem dX8_monthWithout_15 : decode cX8_monthWithout 15 = .ok (.iload 4, 2) := by decide +kernel
theorem dX8_monthWithout_17 : decode cX8_monthWithout 17 = .ok (.iload_n 2, 1) := by decide +kernel
theorem dX8_monthWithout_18 : decode cX8_monthWithout 18 = .ok (.if_icmp .eq 13, 3) := by decide +kernel
theorem dX8_monthWithout_21 : decode cX8_monthWithout 21 = .ok (.aload_n 0, 1) := by decide +kernel
theorem dX8_monthWithout_22 : decode cX8_monthWithout 22 = .ok (.aload_n 1, 1) := by decide +kernel
theorem dX8_monthWithout_23 : decode cX8_monthWithout 23 = .ok (.iload 4, 2) := by decide +kernel
theorem dX8_monthWithout_25 : decode cX8_monthWithout 25 = .ok (.invokevirtual 238, 3) := by decide +kernel
theorem dX8_monthWithout_28 : decode cX8_monthWithout 28 = .ok (.goto 4, 3) := by decide +kernel
theorem dX8_monthWithout_31 : decode cX8_monthWithout 31 = .ok (.iconst 0, 1) := by decide +kernel
theorem dX8_monthWithout_32 : decode cX8_monthWithout 32 = .ok (.iadd, 1) := by decide +kernel
theorem dX8_monthWithout_33 : decode cX8_monthWithout 33 = .ok (.istore_n 3, 1) := by decide +kernel
theorem dX8_monthWithout_34 : decode cX8_monthWithout 34 = .ok (.iinc 4 1, 3) := by decide +kernel
theorem dX8_monthWithout_37 : decode cX8_monthWithout 37 = .ok (.goto (-32), 3) := by decide +kernel
theorem dX8_monthWithout_40 : decode cX8_monthWithout 40 = .ok (.aload_n 1, 1) := by decide +kernel
theorem dX8_monthWithout_41 : decode cX8_monthWithout 41 = .ok (.invokevirtual 241, 3) := by decide +kernel
theorem dX8_monthWithout_44 : decode cX8_monthWithout 44 = .ok (.iload_n 3, 1) := by decide +kernel
theorem dX8_monthWithout_45 : decode cX8_monthWithout 45 = .ok (.ireturn, 1) := by decide +kernel
theorem dX8_visit_0 : decode cX8_visit 0 = .ok (.aload_n 0, 1) := by decide +kernel
theorem dX8_visit_1 : decode cX8_visit 1 = .ok (.getfield 25, 3) := by decide +kernel
theorem dX8_visit_4 : decode cX8_visit 4 = .ok (.iload_n 2, 1) := by decide +kernel
theorem dX8_visit_5 : decode cX8_visit 5 = .ok (.aaload, 1) := by decide +kernel
theorem dX8_visit_6 : decode cX8_visit 6 = .ok (.astore_n 3, 1) := by decide +kernel
theorem dX8_visit_7 : decode cX8_visit 7 = .ok (.aload_n 3, 1) := by decide +kernel
theorem dX8_visit_8 : decode cX8_visit 8 = .ok (.aload_n 1, 1) := by decide +kernel
theorem dX8_visit_9 : decode cX8_visit 9 = .ok (.getfield 126, 3) := by decide +kernel
theorem dX8_visit_12 : decode cX8_visit 12 = .ok (.iload_n 2, 1) := by decide +kernel
theorem dX8_visit_13 : decode cX8_visit 13 = .ok (.baload, 1) := by decide +kernel
theorem dX8_visit_14 : decode cX8_visit 14 = .ok (.invokevirtual 287, 3) := by decide +kernel
theorem dX8_visit_17 : decode cX8_visit 17 = .ok (.istore 4, 2) := by decide +kernel
theorem dX8_visit_19 : decode cX8_visit 19 = .ok (.aload_n 3, 1) := by decide +kernel
theorem dX8_visit_20 : decode cX8_visit 20 = .ok (.aload_n 1, 1) := by decide +kernel
theorem dX8_visit_21 : decode cX8_visit 21 = .ok (.getfield 126, 3) := by decide +kernel
theorem dX8_visit_24 : decode cX8_visit 24 = .ok (.iload_n 2, 1) := by decide +kernel
theorem dX8_visit_25 : decode cX8_visit 25 = .ok (.baload, 1) := by decide +kernel
theorem dX8_visit_26 : decode cX8_visit 26 = .ok (.ifCond .ne 7, 3) := by decide +kernel
theorem dX8_visit_29 : decode cX8_visit 29 = .ok (.iconst 1, 1) := by decide +kernel
theorem dX8_visit_30 : decode cX8_visit 30 = .ok (.goto 4, 3) := by decide +kernel
theorem dX8_visit_33 : decode cX8_visit 33 = .ok (.iconst 0, 1) := by decide +kernel
theorem dX8_visit_34 : decode cX8_visit 34 = .ok (.invokevirtual 287, 3) := by decide +kernel
theorem dX8_visit_37 : decode cX8_visit 37 = .ok (.istore 5, 2) := by decide +kernel
theorem dX8_visit_39 : decode cX8_visit 39 = .ok (.aload_n 3, 1) := by decide +kernel
theorem dX8_visit_40 : decode cX8_visit 40 = .ok (.aload_n 1, 1) := by decide +kernel
theorem dX8_visit_41 : decode cX8_visit 41 = .ok (.getfield 163, 3) := by decide +kernel
theorem dX8_visit_44 : decode cX8_visit 44 = .ok (.iload 4, 2) := by decide +kernel
theorem dX8_visit_46 : decode cX8_visit 46 = .ok (.baload, 1) := by decide +kernel
theorem dX8_visit_47 : decode cX8_visit 47 = .ok (.aload_n 1, 1) := by decide +kernel
theorem dX8_visit_48 : decode cX8_visit 48 = .ok (.getfield 160, 3) := by decide +kernel
theorem dX8_visit_51 : decode cX8_visit 51 = .ok (.iload 4, 2) := by decide +kernel
theorem dX8_visit_53 : decode cX8_visit 53 = .ok (.iaload, 1) := by decide +kernel
theorem dX8_visit_54 : decode cX8_visit 54 = .ok (.invokevirtual 290, 3) := by decide +kernel
theorem dX8_visit_57 : decode cX8_visit 57 = .ok (.ifCond .eq 5, 3) := by decide +kernel
theorem dX8_visit_60 : decode cX8_visit 60 = .ok (.iconst 0, 1) := by decide +kernel
theorem dX8_visit_61 : decode cX8_visit 61 = .ok (.ireturn, 1) := by decide +kernel
theorem dX8_visit_62 : decode cX8_visit 62 = .ok (.iconst 0, 1) := by decide +kernel
theorem dX8_visit_63 : decode cX8_visit 63 = .ok (.istore 6, 2) := by decide +kernel
theorem dX8_visit_65 : decode cX8_visit 65 = .ok (.iconst 0, 1) := by decide +kernel
theorem dX8_visit_66 : decode cX8_visit 66 = .ok (.istore 7, 2) := by decide +kernel
theorem dX8_visit_68 : decode cX8_visit 68 = .ok (.iload 7, 2) := by decide +kernel
theorem dX8_visit_70 : decode cX8_visit 70 = .ok (.aload_n 3, 1) := by decide +kernel
theorem dX8_visit_71 : decode cX8_visit 71 = .ok (.invokevirtual 294, 3) := by decide +kernel
theorem dX8_visit_74 : decode cX8_visit 74 = .ok (.if_icmp .ge 40, 3) := by decide +kernel
theorem dX8_visit_77 : decode cX8_visit 77 = .ok (.aload_n 0, 1) := by decide +kernel
theorem dX8_visit_78 : decode cX8_visit 78 = .ok (.aload_n 1, 1) := by decide +kernel
theorem dX8_visit_79 : decode cX8_visit 79 = .ok (.aload_n 3, 1) := by decide +kernel
theorem dX8_visit_80 : decode cX8_visit 80 = .ok (.iload 4, 2) := by decide +kernel
theorem dX8_visit_82 : decode cX8_visit 82 = .ok (.invokevirtual 297, 3) := by decide +kernel
theorem dX8_visit_85 : decode cX8_visit 85 = .ok (.istore 8, 2) := by decide +kernel
theorem dX8_visit_87 : decode cX8_visit 87 = .ok (.iload 8, 2) := by decide +kernel
theorem dX8_visit_89 : decode cX8_visit 89 = .ok (.iconst (-1), 1) := by decide +kernel
theorem dX8_visit_90 : decode cX8_visit 90 = .ok (.if_icmp .ne 6, 3) := by decide +kernel
theorem dX8_visit_93 : decode cX8_visit 93 = .ok (.goto 21, 3) := by decide +kernel
theorem dX8_visit_96 : decode cX8_visit 96 = .ok (.aload_n 1, 1) := by decide +kernel
theorem dX8_visit_97 : decode cX8_visit 97 = .ok (.getfield 166, 3) := by decide +kernel
theorem dX8_visit_100 : decode cX8_visit 100 = .ok (.iload 8, 2) := by decide +kernel
theorem dX8_visit_102 : decode cX8_visit 102 = .ok (.iload 5, 2) := by decide +kernel
theorem dX8_visit_104 : decode cX8_visit 104 = .ok (.iastore, 1) := by decide +kernel
theorem dX8_visit_105 : decode cX8_visit 105 = .ok (.iinc 6 1, 3) := by decide +kernel
theorem dX8_visit_108 : decode cX8_visit 108 = .ok (.iinc 7 1, 3) := by decide +kernel
theorem dX8_visit_111 : decode cX8_visit 111 = .ok (.goto (-43), 3) := by decide +kernel
theorem dX8_visit_114 : decode cX8_visit 114 = .ok (.iload 6, 2) := by decide +kernel
theorem dX8_visit_116 : decode cX8_visit 116 = .ok (.ireturn, 1) := by decide +kernel
theorem dX8_picked_0 : decode cX8_picked 0 = .ok (.iconst (-1), 1) := by decide +kernel
theorem dX8_picked_1 : decode cX8_picked 1 = .ok (.istore 4, 2) := by decide +kernel
theorem dX8_picked_3 : decode cX8_picked 3 = .ok (.iconst 0, 1) := by decide +kernel
theorem dX8_picked_4 : decode cX8_picked 4 = .ok (.istore 5, 2) := by decide +kernel
theorem dX8_picked_6 : decode cX8_picked 6 = .ok (.iload 5, 2) := by decide +kernel
theorem dX8_picked_8 : decode cX8_picked 8 = .ok (.aload_n 0, 1) := by decide +kernel
theorem dX8_picked_9 : decode cX8_picked 9 = .ok (.getfield 66, 3) := by decide +kernel
theorem dX8_picked_12 : decode cX8_picked 12 = .ok (.if_icmp .ge 51, 3) := by decide +kernel
theorem dX8_picked_15 : decode cX8_picked 15 = .ok (.aload_n 1, 1) := by decide +kernel
theorem dX8_picked_16 : decode cX8_picked 16 = .ok (.getfield 166, 3) := by decide +kernel
theorem dX8_picked_19 : decode cX8_picked 19 = .ok (.iload 5, 2) := by decide +kernel
theorem dX8_picked_21 : decode cX8_picked 21 = .ok (.iaload, 1) := by decide +kernel
theorem dX8_picked_22 : decode cX8_picked 22 = .ok (.iload_n 3, 1) := by decide +kernel
theorem dX8_picked_23 : decode cX8_picked 23 = .ok (.if_icmp .ne 34, 3) := by decide +kernel
theorem dX8_picked_26 : decode cX8_picked 26 = .ok (.iload 4, 2) := by decide +kernel
theorem dX8_picked_28 : decode cX8_picked 28 = .ok (.iconst (-1), 1) := by decide +kernel
theorem dX8_picked_29 : decode cX8_picked 29 = .ok (.if_icmp .eq 24, 3) := by decide +kernel
theorem dX8_picked_32 : decode cX8_picked 32 = .ok (.aload_n 2, 1) := by decide +kernel
theorem dX8_picked_33 : decode cX8_picked 33 = .ok (.aload_n 0, 1) := by decide +kernel
theorem dX8_picked_34 : decode cX8_picked 34 = .ok (.getfield 29, 3) := by decide +kernel
theorem dX8_picked_37 : decode cX8_picked 37 = .ok (.iload 5, 2) := by decide +kernel
theorem dX8_picked_39 : decode cX8_picked 39 = .ok (.iaload, 1) := by decide +kernel
theorem dX8_picked_40 : decode cX8_picked 40 = .ok (.aload_n 0, 1) := by decide +kernel
theorem dX8_picked_41 : decode cX8_picked 41 = .ok (.getfield 29, 3) := by decide +kernel
theorem dX8_picked_44 : decode cX8_picked 44 = .ok (.iload 4, 2) := by decide +kernel
theorem dX8_picked_46 : decode cX8_picked 46 = .ok (.iaload, 1) := by decide +kernel
theorem dX8_picked_47 : decode cX8_picked 47 = .ok (.invokevirtual 301, 3) := by decide +kernel
theorem dX8_picked_50 : decode cX8_picked 50 = .ok (.ifCond .eq 7, 3) := by decide +kernel
theorem dX8_picked_53 : decode cX8_picked 53 = .ok (.iload 5, 2) := by decide +kernel
theorem dX8_picked_55 : decode cX8_picked 55 = .ok (.istore 4, 2) := by decide +kernel
theorem dX8_picked_57 : decode cX8_picked 57 = .ok (.iinc 5 1, 3) := by decide +kernel
theorem dX8_picked_60 : decode cX8_picked 60 = .ok (.goto (-54), 3) := by decide +kernel
theorem dX8_picked_63 : decode cX8_picked 63 = .ok (.iload 4, 2) := by decide +kernel
theorem dX8_picked_65 : decode cX8_picked 65 = .ok (.ireturn, 1) := by decide +kernel
theorem dX8_worthIn_0 : decode cX8_worthIn 0 = .ok (.iconst 0, 1) := by decide +kernel
theorem dX8_worthIn_1 : decode cX8_worthIn 1 = .ok (.istore_n 3, 1) := by decide +kernel
theorem dX8_worthIn_2 : decode cX8_worthIn 2 = .ok (.iconst 0, 1) := by decide +kernel
theorem dX8_worthIn_3 : decode cX8_worthIn 3 = .ok (.istore 4, 2) := by decide +kernel
theorem dX8_worthIn_5 : decode cX8_worthIn 5 = .ok (.iload 4, 2) := by decide +kernel
theorem dX8_worthIn_7 : decode cX8_worthIn 7 = .ok (.aload_n 0, 1) := by decide +kernel
theorem dX8_worthIn_8 : decode cX8_worthIn 8 = .ok (.getfield 66, 3) := by decide +kernel
theorem dX8_worthIn_11 : decode cX8_worthIn 11 = .ok (.if_icmp .ge 34, 3) := by decide +kernel
theorem dX8_worthIn_14 : decode cX8_worthIn 14 = .ok (.iload_n 3, 1) := by decide +kernel
theorem dX8_worthIn_15 : decode cX8_worthIn 15 = .ok (.aload_n 1, 1) := by decide +kernel
theorem dX8_worthIn_16 : decode cX8_worthIn 16 = .ok (.getfield 166, 3) := by decide +kernel
theorem dX8_worthIn_19 : decode cX8_worthIn 19 = .ok (.iload 4, 2) := by decide +kernel
theorem dX8_worthIn_21 : decode cX8_worthIn 21 = .ok (.iaload, 1) := by decide +kernel
theorem dX8_worthIn_22 : decode cX8_worthIn 22 = .ok (.iload_n 2, 1) := by decide +kernel
theorem dX8_worthIn_23 : decode cX8_worthIn 23 = .ok (.if_icmp .ne 13, 3) := by decide +kernel
theorem dX8_worthIn_26 : decode cX8_worthIn 26 = .ok (.aload_n 0, 1) := by decide +kernel
theorem dX8_worthIn_27 : decode cX8_worthIn 27 = .ok (.getfield 29, 3) := by decide +kernel
theorem dX8_worthIn_30 : decode cX8_worthIn 30 = .ok (.iload 4, 2) := by decide +kernel
theorem dX8_worthIn_32 : decode cX8_worthIn 32 = .ok (.iaload, 1) := by decide +kernel
theorem dX8_worthIn_33 : decode cX8_worthIn 33 = .ok (.goto 4, 3) := by decide +kernel
theorem dX8_worthIn_36 : decode cX8_worthIn 36 = .ok (.iconst 0, 1) := by decide +kernel
theorem dX8_worthIn_37 : decode cX8_worthIn 37 = .ok (.iadd, 1) := by decide +kernel
theorem dX8_worthIn_38 : decode cX8_worthIn 38 = .ok (.istore_n 3, 1) := by decide +kernel
theorem dX8_worthIn_39 : decode cX8_worthIn 39 = .ok (.iinc 4 1, 3) := by decide +kernel
theorem dX8_worthIn_42 : decode cX8_worthIn 42 = .ok (.goto (-37), 3) := by decide +kernel
theorem dX8_worthIn_45 : decode cX8_worthIn 45 = .ok (.iload_n 3, 1) := by decide +kernel
theorem dX8_worthIn_46 : decode cX8_worthIn 46 = .ok (.ireturn, 1) := by decide +kernel
theorem dX8_worthAtHome_0 : decode cX8_worthAtHome 0 = .ok (.iconst 0, 1) := by decide +kernel
theorem dX8_worthAtHome_1 : decode cX8_worthAtHome 1 = .ok (.istore_n 2, 1) := by decide +kernel
theorem dX8_worthAtHome_2 : decode cX8_worthAtHome 2 = .ok (.iconst 0, 1) := by decide +kernel
theorem dX8_worthAtHome_3 : decode cX8_worthAtHome 3 = .ok (.istore_n 3, 1) := by decide +kernel
theorem dX8_worthAtHome_4 : decode cX8_worthAtHome 4 = .ok (.iload_n 3, 1) := by decide +kernel
theorem dX8_worthAtHome_5 : decode cX8_worthAtHome 5 = .ok (.aload_n 0, 1) := by decide +kernel
theorem dX8_worthAtHome_6 : decode cX8_worthAtHome 6 = .ok (.getfield 66, 3) := by decide +kernel
theorem dX8_worthAtHome_9 : decode cX8_worthAtHome 9 = .ok (.if_icmp .ge 37, 3) := by decide +kernel
theorem dX8_worthAtHome_12 : decode cX8_worthAtHome 12 = .ok (.iload_n 2, 1) := by decide +kernel
theorem dX8_worthAtHome_13 : decode cX8_worthAtHome 13 = .ok (.aload_n 1, 1) := by decide +kernel
theorem dX8_worthAtHome_14 : decode cX8_worthAtHome 14 = .ok (.getfield 166, 3) := by decide +kernel
theorem dX8_worthAtHome_17 : decode cX8_worthAtHome 17 = .ok (.iload_n 3, 1) := by decide +kernel
theorem dX8_worthAtHome_18 : decode cX8_worthAtHome 18 = .ok (.iaload, 1) := by decide +kernel
theorem dX8_worthAtHome_19 : decode cX8_worthAtHome 19 = .ok (.aload_n 0, 1) := by decide +kernel
theorem dX8_worthAtHome_20 : decode cX8_worthAtHome 20 = .ok (.getfield 33, 3) := by decide +kernel
theorem dX8_worthAtHome_23 : decode cX8_worthAtHome 23 = .ok (.iload_n 3, 1) := by decide +kernel
theorem dX8_worthAtHome_24 : decode cX8_worthAtHome 24 = .ok (.iaload, 1) := by decide +kernel
theorem dX8_worthAtHome_25 : decode cX8_worthAtHome 25 = .ok (.if_icmp .ne 12, 3) := by decide +kernel
theorem dX8_worthAtHome_28 : decode cX8_worthAtHome 28 = .ok (.aload_n 0, 1) := by decide +kernel
theorem dX8_worthAtHome_29 : decode cX8_worthAtHome 29 = .ok (.getfield 29, 3) := by decide +kernel
theorem dX8_worthAtHome_32 : decode cX8_worthAtHome 32 = .ok (.iload_n 3, 1) := by decide +kernel
theorem dX8_worthAtHome_33 : decode cX8_worthAtHome 33 = .ok (.iaload, 1) := by decide +kernel
theorem dX8_worthAtHome_34 : decode cX8_worthAtHome 34 = .ok (.goto 4, 3) := by decide +kernel
theorem dX8_worthAtHome_37 : decode cX8_worthAtHome 37 = .ok (.iconst 0, 1) := by decide +kernel
theorem dX8_worthAtHome_38 : decode cX8_worthAtHome 38 = .ok (.iadd, 1) := by decide +kernel
theorem dX8_worthAtHome_39 : decode cX8_worthAtHome 39 = .ok (.istore_n 2, 1) := by decide +kernel
theorem dX8_worthAtHome_40 : decode cX8_worthAtHome 40 = .ok (.iinc 3 1, 3) := by decide +kernel
theorem dX8_worthAtHome_43 : decode cX8_worthAtHome 43 = .ok (.goto (-39), 3) := by decide +kernel
theorem dX8_worthAtHome_46 : decode cX8_worthAtHome 46 = .ok (.iload_n 2, 1) := by decide +kernel
theorem dX8_worthAtHome_47 : decode cX8_worthAtHome 47 = .ok (.ireturn, 1) := by decide +kernel
theorem dX8_spoonsAway_0 : decode cX8_spoonsAway 0 = .ok (.iconst 0, 1) := by decide +kernel
theorem dX8_spoonsAway_1 : decode cX8_spoonsAway 1 = .ok (.istore_n 1, 1) := by decide +kernel
theorem dX8_spoonsAway_2 : decode cX8_spoonsAway 2 = .ok (.iconst 0, 1) := by decide +kernel
theorem dX8_spoonsAway_3 : decode cX8_spoonsAway 3 = .ok (.istore_n 2, 1) := by decide +kernel
theorem dX8_spoonsAway_4 : decode cX8_spoonsAway 4 = .ok (.iload_n 2, 1) := by decide +kernel
theorem dX8_spoonsAway_5 : decode cX8_spoonsAway 5 = .ok (.aload_n 0, 1) := by decide +kernel
theorem dX8_spoonsAway_6 : decode cX8_spoonsAway 6 = .ok (.getfield 66, 3) := by decide +kernel
theorem dX8_spoonsAway_9 : decode cX8_spoonsAway 9 = .ok (.if_icmp .ge 35, 3) := by decide +kernel
theorem dX8_spoonsAway_12 : decode cX8_spoonsAway 12 = .ok (.iload_n 1, 1) := by decide +kernel
theorem dX8_spoonsAway_13 : decode cX8_spoonsAway 13 = .ok (.aload_n 0, 1) := by decide +kernel
theorem dX8_spoonsAway_14 : decode cX8_spoonsAway 14 = .ok (.getfield 39, 3) := by decide +kernel
theorem dX8_spoonsAway_17 : decode cX8_spoonsAway 17 = .ok (.getfield 166, 3) := by decide +kernel
theorem dX8_spoonsAway_20 : decode cX8_spoonsAway 20 = .ok (.iload_n 2, 1) := by decide +kernel
theorem dX8_spoonsAway_21 : decode cX8_spoonsAway 21 = .ok (.iaload, 1) := by decide +kernel
theorem dX8_spoonsAway_22 : decode cX8_spoonsAway 22 = .ok (.aload_n 0, 1) := by decide +kernel
theorem dX8_spoonsAway_23 : decode cX8_spoonsAway 23 = .ok (.getfield 33, 3) := by decide +kernel
theorem dX8_spoonsAway_26 : decode cX8_spoonsAway 26 = .ok (.iload_n 2, 1) := by decide +kernel
theorem dX8_spoonsAway_27 : decode cX8_spoonsAway 27 = .ok (.iaload, 1) := by decide +kernel
theorem dX8_spoonsAway_28 : decode cX8_spoonsAway 28 = .ok (.if_icmp .eq 7, 3) := by decide +kernel
theorem dX8_spoonsAway_31 : decode cX8_spoonsAway 31 = .ok (.iconst 1, 1) := by decide +kernel
theorem dX8_spoonsAway_32 : decode cX8_spoonsAway 32 = .ok (.goto 4, 3) := by decide +kernel
theorem dX8_spoonsAway_35 : decode cX8_spoonsAway 35 = .ok (.iconst 0, 1) := by decide +kernel
theorem dX8_spoonsAway_36 : decode cX8_spoonsAway 36 = .ok (.iadd, 1) := by decide +kernel
theorem dX8_spoonsAway_37 : decode cX8_spoonsAway 37 = .ok (.istore_n 1, 1) := by decide +kernel
theorem dX8_spoonsAway_38 : decode cX8_spoonsAway 38 = .ok (.iinc 2 1, 3) := by decide +kernel
theorem dX8_spoonsAway_41 : decode cX8_spoonsAway 41 = .ok (.goto (-37), 3) := by decide +kernel
theorem dX8_spoonsAway_44 : decode cX8_spoonsAway 44 = .ok (.iload_n 1, 1) := by decide +kernel
theorem dX8_spoonsAway_45 : decode cX8_spoonsAway 45 = .ok (.ireturn, 1) := by decide +kernel
theorem dX8_nextSeed_0 : decode cX8_nextSeed 0 = .ok (.ldc2_w 305, 3) := by decide +kernel
theorem dX8_nextSeed_3 : decode cX8_nextSeed 3 = .ok (.iload_n 0, 1) := by decide +kernel
theorem dX8_nextSeed_4 : decode cX8_nextSeed 4 = .ok (.i2l, 1) := by decide +kernel
theorem dX8_nextSeed_5 : decode cX8_nextSeed 5 = .ok (.lmul, 1) := by decide +kernel
theorem dX8_nextSeed_6 : decode cX8_nextSeed 6 = .ok (.ldc2_w 307, 3) := by decide +kernel
theorem dX8_nextSeed_9 : decode cX8_nextSeed 9 = .ok (.ladd, 1) := by decide +kernel
theorem dX8_nextSeed_10 : decode cX8_nextSeed 10 = .ok (.ldc2_w 309, 3) := by decide +kernel
theorem dX8_nextSeed_13 : decode cX8_nextSeed 13 = .ok (.land, 1) := by decide +kernel
theorem dX8_nextSeed_14 : decode cX8_nextSeed 14 = .ok (.l2i, 1) := by decide +kernel
theorem dX8_nextSeed_15 : decode cX8_nextSeed 15 = .ok (.ireturn, 1) := by decide +kernel
theorem dX8_drawOfTen_0 : decode cX8_drawOfTen 0 = .ok (.iload_n 0, 1) := by decide +kernel
theorem dX8_drawOfTen_1 : decode cX8_drawOfTen 1 = .ok (.ldc_w 311, 3) := by decide +kernel
theorem dX8_drawOfTen_4 : decode cX8_drawOfTen 4 = .ok (.idiv, 1) := by decide +kernel
theorem dX8_drawOfTen_5 : decode cX8_drawOfTen 5 = .ok (.bipush 10, 2) := by decide +kernel
theorem dX8_drawOfTen_7 : decode cX8_drawOfTen 7 = .ok (.irem, 1) := by decide +kernel
theorem dX8_drawOfTen_8 : decode cX8_drawOfTen 8 = .ok (.ireturn, 1) := by decide +kernel
theorem dX8_spreadOdds_0 : decode cX8_spreadOdds 0 = .ok (.aload_n 0, 1) := by decide +kernel
theorem dX8_spreadOdds_1 : decode cX8_spreadOdds 1 = .ok (.getfield 46, 3) := by decide +kernel
theorem dX8_spreadOdds_4 : decode cX8_spreadOdds 4 = .ok (.aload_n 0, 1) := by decide +kernel
theorem dX8_spreadOdds_5 : decode cX8_spreadOdds 5 = .ok (.getfield 39, 3) := by decide +kernel
theorem dX8_spreadOdds_8 : decode cX8_spreadOdds 8 = .ok (.invokevirtual 188, 3) := by decide +kernel
theorem dX8_spreadOdds_11 : decode cX8_spreadOdds 11 = .ok (.iconst 0, 1) := by decide +kernel
theorem dX8_spreadOdds_12 : decode cX8_spreadOdds 12 = .ok (.istore_n 3, 1) := by decide +kernel
theorem dX8_spreadOdds_13 : decode cX8_spreadOdds 13 = .ok (.iload_n 3, 1) := by decide +kernel
theorem dX8_spreadOdds_14 : decode cX8_spreadOdds 14 = .ok (.bipush 8, 2) := by decide +kernel
theorem dX8_spreadOdds_16 : decode cX8_spreadOdds 16 = .ok (.if_icmp .ge 33, 3) := by decide +kernel
theorem dX8_spreadOdds_19 : decode cX8_spreadOdds 19 = .ok (.aload_n 0, 1) := by decide +kernel
theorem dX8_spreadOdds_20 : decode cX8_spreadOdds 20 = .ok (.getfield 49, 3) := by decide +kernel
theorem dX8_spreadOdds_23 : decode cX8_spreadOdds 23 = .ok (.iload_n 3, 1) := by decide +kernel
theorem dX8_spreadOdds_24 : decode cX8_spreadOdds 24 = .ok (.iload_n 3, 1) := by decide +kernel
theorem dX8_spreadOdds_25 : decode cX8_spreadOdds 25 = .ok (.aload_n 0, 1) := by decide +kernel
theorem dX8_spreadOdds_26 : decode cX8_spreadOdds 26 = .ok (.getfield 39, 3) := by decide +kernel
theorem dX8_spreadOdds_29 : decode cX8_spreadOdds 29 = .ok (.getfield 166, 3) := by decide +kernel
theorem dX8_spreadOdds_32 : decode cX8_spreadOdds 32 = .ok (.iload_n 1, 1) := by decide +kernel
theorem dX8_spreadOdds_33 : decode cX8_spreadOdds 33 = .ok (.iaload, 1) := by decide +kernel
theorem dX8_spreadOdds_34 : decode cX8_spreadOdds 34 = .ok (.if_icmp .ne 7, 3) := by decide +kernel
theorem dX8_spreadOdds_37 : decode cX8_spreadOdds 37 = .ok (.lconst 1, 1) := by decide +kernel
theorem dX8_spreadOdds_38 : decode cX8_spreadOdds 38 = .ok (.goto 4, 3) := by decide +kernel
theorem dX8_spreadOdds_41 : decode cX8_spreadOdds 41 = .ok (.lconst 0, 1) := by decide +kernel
theorem dX8_spreadOdds_42 : decode cX8_spreadOdds 42 = .ok (.lastore, 1) := by decide +kernel
theorem dX8_spreadOdds_43 : decode cX8_spreadOdds 43 = .ok (.iinc 3 1, 3) := by decide +kernel
theorem dX8_spreadOdds_46 : decode cX8_spreadOdds 46 = .ok (.goto (-33), 3) := by decide +kernel
theorem dX8_spreadOdds_49 : decode cX8_spreadOdds 49 = .ok (.lconst 1, 1) := by decide +kernel
theorem dX8_spreadOdds_50 : decode cX8_spreadOdds 50 = .ok (.lstore_n 3, 1) := by decide +kernel
theorem dX8_spreadOdds_51 : decode cX8_spreadOdds 51 = .ok (.iconst 0, 1) := by decide +kernel
theorem dX8_spreadOdds_52 : decode cX8_spreadOdds 52 = .ok (.istore 5, 2) := by decide +kernel
theorem dX8_spreadOdds_54 : decode cX8_spreadOdds 54 = .ok (.iload 5, 2) := by decide +kernel
theorem dX8_spreadOdds_56 : decode cX8_spreadOdds 56 = .ok (.iload_n 2, 1) := by decide +kernel
theorem dX8_spreadOdds_57 : decode cX8_spreadOdds 57 = .ok (.if_icmp .ge 46, 3) := by decide +kernel
theorem dX8_spreadOdds_60 : decode cX8_spreadOdds 60 = .ok (.iconst 0, 1) := by decide +kernel
theorem dX8_spreadOdds_61 : decode cX8_spreadOdds 61 = .ok (.istore 6, 2) := by decide +kernel
theorem dX8_spreadOdds_63 : decode cX8_spreadOdds 63 = .ok (.iload 6, 2) := by decide +kernel
theorem dX8_spreadOdds_65 : decode cX8_spreadOdds 65 = .ok (.aload_n 0, 1) := by decide +kernel
theorem dX8_spreadOdds_66 : decode cX8_spreadOdds 66 = .ok (.getfield 62, 3) := by decide +kernel
theorem dX8_spreadOdds_69 : decode cX8_spreadOdds 69 = .ok (.if_icmp .ge 21, 3) := by decide +kernel
theorem dX8_spreadOdds_72 : decode cX8_spreadOdds 72 = .ok (.aload_n 0, 1) := by decide +kernel
theorem dX8_spreadOdds_73 : decode cX8_spreadOdds 73 = .ok (.iload 6, 2) := by decide +kernel
theorem dX8_spreadOdds_75 : decode cX8_spreadOdds 75 = .ok (.invokevirtual 312, 3) := by decide +kernel
theorem dX8_spreadOdds_78 : decode cX8_spreadOdds 78 = .ok (.lload_n 3, 1) := by decide +kernel
theorem dX8_spreadOdds_79 : decode cX8_spreadOdds 79 = .ok (.ldc2_w 316, 3) := by decide +kernel
theorem dX8_spreadOdds_82 : decode cX8_spreadOdds 82 = .ok (.lmul, 1) := by decide +kernel
theorem dX8_spreadOdds_83 : decode cX8_spreadOdds 83 = .ok (.lstore_n 3, 1) := by decide +kernel
theorem dX8_spreadOdds_84 : decode cX8_spreadOdds 84 = .ok (.iinc 6 1, 3) := by decide +kernel
theorem dX8_spreadOdds_87 : decode cX8_spreadOdds 87 = .ok (.goto (-24), 3) := by decide +kernel
theorem dX8_spreadOdds_90 : decode cX8_spreadOdds 90 = .ok (.aload_n 0, 1) := by decide +kernel
theorem dX8_spreadOdds_91 : decode cX8_spreadOdds 91 = .ok (.getfield 46, 3) := by decide +kernel
theorem dX8_spreadOdds_94 : decode cX8_spreadOdds 94 = .ok (.invokevirtual 241, 3) := by decide +kernel
theorem dX8_spreadOdds_97 : decode cX8_spreadOdds 97 = .ok (.iinc 5 1, 3) := by decide +kernel
theorem dX8_spreadOdds_100 : decode cX8_spreadOdds 100 = .ok (.goto (-46), 3) := by decide +kernel
theorem dX8_spreadOdds_103 : decode cX8_spreadOdds 103 = .ok (.lload_n 3, 1) := by decide +kernel
theorem dX8_spreadOdds_104 : decode cX8_spreadOdds 104 = .ok (.lreturn, 1) := by decide +kernel
theorem dX8_spreadBy_0 : decode cX8_spreadBy 0 = .ok (.aload_n 0, 1) := by decide +kernel
theorem dX8_spreadBy_1 : decode cX8_spreadBy 1 = .ok (.getfield 25, 3) := by decide +kernel
theorem dX8_spreadBy_4 : decode cX8_spreadBy 4 = .ok (.iload_n 1, 1) := by decide +kernel
theorem dX8_spreadBy_5 : decode cX8_spreadBy 5 = .ok (.aaload, 1) := by decide +kernel
theorem dX8_spreadBy_6 : decode cX8_spreadBy 6 = .ok (.astore_n 2, 1) := by decide +kernel
theorem dX8_spreadBy_7 : decode cX8_spreadBy 7 = .ok (.aload_n 2, 1) := by decide +kernel
theorem dX8_spreadBy_8 : decode cX8_spreadBy 8 = .ok (.aload_n 0, 1) := by decide +kernel
theorem dX8_spreadBy_9 : decode cX8_spreadBy 9 = .ok (.getfield 46, 3) := by decide +kernel
theorem dX8_spreadBy_12 : decode cX8_spreadBy 12 = .ok (.getfield 126, 3) := by decide +kernel
theorem dX8_spreadBy_15 : decode cX8_spreadBy 15 = .ok (.iload_n 1, 1) := by decide +kernel
theorem dX8_spreadBy_16 : decode cX8_spreadBy 16 = .ok (.baload, 1) := by decide +kernel
theorem dX8_spreadBy_17 : decode cX8_spreadBy 17 = .ok (.invokevirtual 287, 3) := by decide +kernel
theorem dX8_spreadBy_20 : decode cX8_spreadBy 20 = .ok (.istore_n 3, 1) := by decide +kernel
theorem dX8_spreadBy_21 : decode cX8_spreadBy 21 = .ok (.aload_n 2, 1) := by decide +kernel
theorem dX8_spreadBy_22 : decode cX8_spreadBy 22 = .ok (.aload_n 0, 1) := by decide +kernel
theorem dX8_spreadBy_23 : decode cX8_spreadBy 23 = .ok (.getfield 46, 3) := by decide +kernel
theorem dX8_spreadBy_26 : decode cX8_spreadBy 26 = .ok (.getfield 126, 3) := by decide +kernel
theorem dX8_spreadBy_29 : decode cX8_spreadBy 29 = .ok (.iload_n 1, 1) := by decide +kernel
theorem dX8_spreadBy_30 : decode cX8_spreadBy 30 = .ok (.baload, 1) := by decide +kernel
theorem dX8_spreadBy_31 : decode cX8_spreadBy 31 = .ok (.ifCond .ne 7, 3) := by decide +kernel
theorem dX8_spreadBy_34 : decode cX8_spreadBy 34 = .ok (.iconst 1, 1) := by decide +kernel
theorem dX8_spreadBy_35 : decode cX8_spreadBy 35 = .ok (.goto 4, 3) := by decide +kernel
theorem dX8_spreadBy_38 : decode cX8_spreadBy 38 = .ok (.iconst 0, 1) := by decide +kernel
theorem dX8_spreadBy_39 : decode cX8_spreadBy 39 = .ok (.invokevirtual 287, 3) := by decide +kernel
theorem dX8_spreadBy_42 : decode cX8_spreadBy 42 = .ok (.istore 4, 2) := by decide +kernel
theorem dX8_spreadBy_44 : decode cX8_spreadBy 44 = .ok (.aload_n 2, 1) := by decide +kernel
theorem dX8_spreadBy_45 : decode cX8_spreadBy 45 = .ok (.invokevirtual 294, 3) := by decide +kernel
theorem dX8_spreadBy_48 : decode cX8_spreadBy 48 = .ok (.ifCond .le 32, 3) := by decide +kernel
theorem dX8_spreadBy_51 : decode cX8_spreadBy 51 = .ok (.aload_n 2, 1) := by decide +kernel
theorem dX8_spreadBy_52 : decode cX8_spreadBy 52 = .ok (.aload_n 0, 1) := by decide +kernel
theorem dX8_spreadBy_53 : decode cX8_spreadBy 53 = .ok (.getfield 46, 3) := by decide +kernel
theorem dX8_spreadBy_56 : decode cX8_spreadBy 56 = .ok (.getfield 163, 3) := by decide +kernel
theorem dX8_spreadBy_59 : decode cX8_spreadBy 59 = .ok (.iload_n 3, 1) := by decide +kernel
theorem dX8_spreadBy_60 : decode cX8_spreadBy 60 = .ok (.baload, 1) := by decide +kernel
theorem dX8_spreadBy_61 : decode cX8_spreadBy 61 = .ok (.aload_n 0, 1) := by decide +kernel
theorem dX8_spreadBy_62 : decode cX8_spreadBy 62 = .ok (.getfield 46, 3) := by decide +kernel
theorem dX8_spreadBy_65 : decode cX8_spreadBy 65 = .ok (.getfield 160, 3) := by decide +kernel
theorem dX8_spreadBy_68 : decode cX8_spreadBy 68 = .ok (.iload_n 3, 1) := by decide +kernel
theorem dX8_spreadBy_69 : decode cX8_spreadBy 69 = .ok (.iaload, 1) := by decide +kernel
theorem dX8_spreadBy_70 : decode cX8_spreadBy 70 = .ok (.invokevirtual 290, 3) := by decide +kernel
theorem dX8_spreadBy_73 : decode cX8_spreadBy 73 = .ok (.ifCond .ne 7, 3) := by decide +kernel
theorem dX8_spreadBy_76 : decode cX8_spreadBy 76 = .ok (.iconst 1, 1) := by decide +kernel
theorem dX8_spreadBy_77 : decode cX8_spreadBy 77 = .ok (.goto 4, 3) := by decide +kernel
theorem dX8_spreadBy_80 : decode cX8_spreadBy 80 = .ok (.iconst 0, 1) := by decide +kernel
theorem dX8_spreadBy_81 : decode cX8_spreadBy 81 = .ok (.istore 5, 2) := by decide +kernel
theorem dX8_spreadBy_83 : decode cX8_spreadBy 83 = .ok (.iload 5, 2) := by decide +kernel
theorem dX8_spreadBy_85 : decode cX8_spreadBy 85 = .ok (.ifCond .eq 23, 3) := by decide +kernel
theorem dX8_spreadBy_88 : decode cX8_spreadBy 88 = .ok (.aload_n 0, 1) := by decide +kernel
theorem dX8_spreadBy_89 : decode cX8_spreadBy 89 = .ok (.getfield 49, 3) := by decide +kernel
theorem dX8_spreadBy_92 : decode cX8_spreadBy 92 = .ok (.iload_n 3, 1) := by decide +kernel
theorem dX8_spreadBy_93 : decode cX8_spreadBy 93 = .ok (.laload, 1) := by decide +kernel
theorem dX8_spreadBy_94 : decode cX8_spreadBy 94 = .ok (.aload_n 0, 1) := by decide +kernel
theorem dX8_spreadBy_95 : decode cX8_spreadBy 95 = .ok (.getfield 46, 3) := by decide +kernel
theorem dX8_spreadBy_98 : decode cX8_spreadBy 98 = .ok (.getfield 130, 3) := by decide +kernel
theorem dX8_spreadBy_101 : decode cX8_spreadBy 101 = .ok (.iload_n 1, 1) := by decide +kernel
theorem dX8_spreadBy_102 : decode cX8_spreadBy 102 = .ok (.iaload, 1) := by decide +kernel
theorem dX8_spreadBy_103 : decode cX8_spreadBy 103 = .ok (.i2l, 1) := by decide +kernel
theorem dX8_spreadBy_104 : decode cX8_spreadBy 104 = .ok (.lmul, 1) := by decide +kernel
theorem dX8_spreadBy_105 : decode cX8_spreadBy 105 = .ok (.goto 4, 3) := by decide +kernel
theorem dX8_spreadBy_108 : decode cX8_spreadBy 108 = .ok (.lconst 0, 1) := by decide +kernel
theorem dX8_spreadBy_109 : decode cX8_spreadBy 109 = .ok (.lstore 6, 2) := by decide +kernel
theorem dX8_spreadBy_111 : decode cX8_spreadBy 111 = .ok (.iconst 0, 1) := by decide +kernel
theorem dX8_spreadBy_112 : decode cX8_spreadBy 112 = .ok (.istore 8, 2) := by decide +kernel
theorem dX8_spreadBy_114 : decode cX8_spreadBy 114 = .ok (.iload 8, 2) := by decide +kernel
theorem dX8_spreadBy_116 : decode cX8_spreadBy 116 = .ok (.bipush 8, 2) := by decide +kernel
theorem dX8_spreadBy_118 : decode cX8_spreadBy 118 = .ok (.if_icmp .ge 22, 3) := by decide +kernel
theorem dX8_spreadBy_121 : decode cX8_spreadBy 121 = .ok (.aload_n 0, 1) := by decide +kernel
theorem dX8_spreadBy_122 : decode cX8_spreadBy 122 = .ok (.getfield 49, 3) := by decide +kernel
theorem dX8_spreadBy_125 : decode cX8_spreadBy 125 = .ok (.iload 8, 2) := by decide +kernel
theorem dX8_spreadBy_127 : decode cX8_spreadBy 127 = .ok (.dup2, 1) := by decide +kernel
theorem dX8_spreadBy_128 : decode cX8_spreadBy 128 = .ok (.laload, 1) := by decide +kernel
theorem dX8_spreadBy_129 : decode cX8_spreadBy 129 = .ok (.ldc2_w 316, 3) := by decide +kernel
theorem dX8_spreadBy_132 : decode cX8_spreadBy 132 = .ok (.lmul, 1) := by decide +kernel
theorem dX8_spreadBy_133 : decode cX8_spreadBy 133 = .ok (.lastore, 1) := by decide +kernel
theorem dX8_spreadBy_134 : decode cX8_spreadBy 134 = .ok (.iinc 8 1, 3) := by decide +kernel
theorem dX8_spreadBy_137 : decode cX8_spreadBy 137 = .ok (.goto (-23), 3) := by decide +kernel
theorem dX8_spreadBy_140 : decode cX8_spreadBy 140 = .ok (.aload_n 0, 1) := by decide +kernel
theorem dX8_spreadBy_141 : decode cX8_spreadBy 141 = .ok (.getfield 49, 3) := by decide +kernel
theorem dX8_spreadBy_144 : decode cX8_spreadBy 144 = .ok (.iload_n 3, 1) := by decide +kernel
theorem dX8_spreadBy_145 : decode cX8_spreadBy 145 = .ok (.dup2, 1) := by decide +kernel
theorem dX8_spreadBy_146 : decode cX8_spreadBy 146 = .ok (.laload, 1) := by decide +kernel
theorem dX8_spreadBy_147 : decode cX8_spreadBy 147 = .ok (.lload 6, 2) := by decide +kernel
theorem dX8_spreadBy_149 : decode cX8_spreadBy 149 = .ok (.lsub, 1) := by decide +kernel
theorem dX8_spreadBy_150 : decode cX8_spreadBy 150 = .ok (.lastore, 1) := by decide +kernel
theorem dX8_spreadBy_151 : decode cX8_spreadBy 151 = .ok (.aload_n 0, 1) := by decide +kernel
theorem dX8_spreadBy_152 : decode cX8_spreadBy 152 = .ok (.getfield 49, 3) := by decide +kernel
theorem dX8_spreadBy_155 : decode cX8_spreadBy 155 = .ok (.iload 4, 2) := by decide +kernel
theorem dX8_spreadBy_157 : decode cX8_spreadBy 157 = .ok (.dup2, 1) := by decide +kernel
theorem dX8_spreadBy_158 : decode cX8_spreadBy 158 = .ok (.laload, 1) := by decide +kernel
theorem dX8_spreadBy_159 : decode cX8_spreadBy 159 = .ok (.lload 6, 2) := by decide +kernel
theorem dX8_spreadBy_161 : decode cX8_spreadBy 161 = .ok (.ladd, 1) := by decide +kernel
theorem dX8_spreadBy_162 : decode cX8_spreadBy 162 = .ok (.lastore, 1) := by decide +kernel
theorem dX8_spreadBy_163 : decode cX8_spreadBy 163 = .ok (.return_, 1) := by decide +kernel
theorem dX8_greatestDivisor_0 : decode cX8_greatestDivisor 0 = .ok (.iconst 0, 1) := by decide +kernel
theorem dX8_greatestDivisor_1 : decode cX8_greatestDivisor 1 = .ok (.istore 4, 2) := by decide +kernel
theorem dX8_greatestDivisor_3 : decode cX8_greatestDivisor 3 = .ok (.iload 4, 2) := by decide +kernel
theorem dX8_greatestDivisor_5 : decode cX8_greatestDivisor 5 = .ok (.sipush 200, 3) := by decide +kernel
theorem dX8_greatestDivisor_8 : decode cX8_greatestDivisor 8 = .ok (.if_icmp .ge 25, 3) := by decide +kernel
theorem dX8_greatestDivisor_11 : decode cX8_greatestDivisor 11 = .ok (.lload_n 2, 1) := by decide +kernel
theorem dX8_greatestDivisor_12 : decode cX8_greatestDivisor 12 = .ok (.lconst 0, 1) := by decide +kernel
theorem dX8_greatestDivisor_13 : decode cX8_greatestDivisor 13 = .ok (.lcmp, 1) := by decide +kernel
theorem dX8_greatestDivisor_14 : decode cX8_greatestDivisor 14 = .ok (.ifCond .eq 19, 3) := by decide +kernel
theorem dX8_greatestDivisor_17 : decode cX8_greatestDivisor 17 = .ok (.lload_n 0, 1) := by decide +kernel
theorem dX8_greatestDivisor_18 : decode cX8_greatestDivisor 18 = .ok (.lload_n 2, 1) := by decide +kernel
theorem dX8_greatestDivisor_19 : decode cX8_greatestDivisor 19 = .ok (.lrem, 1) := by decide +kernel
theorem dX8_greatestDivisor_20 : decode cX8_greatestDivisor 20 = .ok (.lstore 5, 2) := by decide +kernel
theorem dX8_greatestDivisor_22 : decode cX8_greatestDivisor 22 = .ok (.lload_n 2, 1) := by decide +kernel
theorem dX8_greatestDivisor_23 : decode cX8_greatestDivisor 23 = .ok (.lstore_n 0, 1) := by decide +kernel
theorem dX8_greatestDivisor_24 : decode cX8_greatestDivisor 24 = .ok (.lload 5, 2) := by decide +kernel
theorem dX8_greatestDivisor_26 : decode cX8_greatestDivisor 26 = .ok (.lstore_n 2, 1) := by decide +kernel
theorem dX8_greatestDivisor_27 : decode cX8_greatestDivisor 27 = .ok (.iinc 4 1, 3) := by decide +kernel
theorem dX8_greatestDivisor_30 : decode cX8_greatestDivisor 30 = .ok (.goto (-27), 3) := by decide +kernel
theorem dX8_greatestDivisor_33 : decode cX8_greatestDivisor 33 = .ok (.lload_n 0, 1) := by decide +kernel
theorem dX8_greatestDivisor_34 : decode cX8_greatestDivisor 34 = .ok (.lreturn, 1) := by decide +kernel
theorem dX8_bestSet_0 : decode cX8_bestSet 0 = .ok (.aload_n 0, 1) := by decide +kernel
theorem dX8_bestSet_1 : decode cX8_bestSet 1 = .ok (.iload_n 1, 1) := by decide +kernel
theorem dX8_bestSet_2 : decode cX8_bestSet 2 = .ok (.invokevirtual 318, 3) := by decide +kernel
theorem dX8_bestSet_5 : decode cX8_bestSet 5 = .ok (.istore_n 3, 1) := by decide +kernel
theorem dX8_bestSet_6 : decode cX8_bestSet 6 = .ok (.iconst 0, 1) := by decide +kernel
theorem dX8_bestSet_7 : decode cX8_bestSet 7 = .ok (.istore 4, 2) := by decide +kernel
theorem dX8_bestSet_9 : decode cX8_bestSet 9 = .ok (.aload_n 0, 1) := by decide +kernel
theorem dX8_bestSet_10 : decode cX8_bestSet 10 = .ok (.iload_n 1, 1) := by decide +kernel
theorem dX8_bestSet_11 : decode cX8_bestSet 11 = .ok (.iload_n 2, 1) := by decide +kernel
theorem dX8_bestSet_12 : decode cX8_bestSet 12 = .ok (.iconst 0, 1) := by decide +kernel
theorem dX8_bestSet_13 : decode cX8_bestSet 13 = .ok (.invokevirtual 213, 3) := by decide +kernel
theorem dX8_bestSet_16 : decode cX8_bestSet 16 = .ok (.istore 5, 2) := by decide +kernel
theorem dX8_bestSet_18 : decode cX8_bestSet 18 = .ok (.iconst 1, 1) := by decide +kernel
theorem dX8_bestSet_19 : decode cX8_bestSet 19 = .ok (.istore 6, 2) := by decide +kernel
theorem dX8_bestSet_21 : decode cX8_bestSet 21 = .ok (.iload 6, 2) := by decide +kernel
theorem dX8_bestSet_23 : decode cX8_bestSet 23 = .ok (.iconst 1, 1) := by decide +kernel
theorem dX8_bestSet_24 : decode cX8_bestSet 24 = .ok (.aload_n 0, 1) := by decide +kernel
theorem dX8_bestSet_25 : decode cX8_bestSet 25 = .ok (.getfield 62, 3) := by decide +kernel
theorem dX8_bestSet_28 : decode cX8_bestSet 28 = .ok (.ishl, 1) := by decide +kernel
theorem dX8_bestSet_29 : decode cX8_bestSet 29 = .ok (.if_icmp .ge 63, 3) := by decide +kernel
theorem dX8_bestSet_32 : decode cX8_bestSet 32 = .ok (.iload 6, 2) := by decide +kernel
theorem dX8_bestSet_34 : decode cX8_bestSet 34 = .ok (.iload_n 3, 1) := by decide +kernel
theorem dX8_bestSet_35 : decode cX8_bestSet 35 = .ok (.iconst (-1), 1) := by decide +kernel
theorem dX8_bestSet_36 : decode cX8_bestSet 36 = .ok (.ixor, 1) := by decide +kernel
theorem dX8_bestSet_37 : decode cX8_bestSet 37 = .ok (.iand, 1) := by decide +kernel
theorem dX8_bestSet_38 : decode cX8_bestSet 38 = .ok (.ifCond .ne 48, 3) := by decide +kernel
theorem dX8_bestSet_41 : decode cX8_bestSet 41 = .ok (.aload_n 0, 1) := by decide +kernel
theorem dX8_bestSet_42 : decode cX8_bestSet 42 = .ok (.iload_n 1, 1) := by decide +kernel
theorem dX8_bestSet_43 : decode cX8_bestSet 43 = .ok (.iload_n 2, 1) := by decide +kernel
theorem dX8_bestSet_44 : decode cX8_bestSet 44 = .ok (.iload 6, 2) := by decide +kernel
theorem dX8_bestSet_46 : decode cX8_bestSet 46 = .ok (.invokevirtual 213, 3) := by decide +kernel
theorem dX8_bestSet_49 : decode cX8_bestSet 49 = .ok (.istore 7, 2) := by decide +kernel
theorem dX8_bestSet_51 : decode cX8_bestSet 51 = .ok (.iload 7, 2) := by decide +kernel
theorem dX8_bestSet_53 : decode cX8_bestSet 53 = .ok (.iload 5, 2) := by decide +kernel
theorem dX8_bestSet_55 : decode cX8_bestSet 55 = .ok (.if_icmp .gt 23, 3) := by decide +kernel
theorem dX8_bestSet_58 : decode cX8_bestSet 58 = .ok (.iload 7, 2) := by decide +kernel
theorem dX8_bestSet_60 : decode cX8_bestSet 60 = .ok (.iload 5, 2) := by decide +kernel
theorem dX8_bestSet_62 : decode cX8_bestSet 62 = .ok (.if_icmp .ne 24, 3) := by decide +kernel
theorem dX8_bestSet_65 : decode cX8_bestSet 65 = .ok (.iload 6, 2) := by decide +kernel
theorem dX8_bestSet_67 : decode cX8_bestSet 67 = .ok (.invokestatic 321, 3) := by decide +kernel
theorem dX8_bestSet_70 : decode cX8_bestSet 70 = .ok (.iload 4, 2) := by decide +kernel
theorem dX8_bestSet_72 : decode cX8_bestSet 72 = .ok (.invokestatic 321, 3) := by decide +kernel
theorem dX8_bestSet_75 : decode cX8_bestSet 75 = .ok (.if_icmp .ge 11, 3) := by decide +kernel
theorem dX8_bestSet_78 : decode cX8_bestSet 78 = .ok (.iload 6, 2) := by decide +kernel
theorem dX8_bestSet_80 : decode cX8_bestSet 80 = .ok (.istore 4, 2) := by decide +kernel
theorem dX8_bestSet_82 : decode cX8_bestSet 82 = .ok (.iload 7, 2) := by decide +kernel
theorem dX8_bestSet_84 : decode cX8_bestSet 84 = .ok (.istore 5, 2) := by decide +kernel
theorem dX8_bestSet_86 : decode cX8_bestSet 86 = .ok (.iinc 6 1, 3) := by decide +kernel
theorem dX8_bestSet_89 : decode cX8_bestSet 89 = .ok (.goto (-68), 3) := by decide +kernel
theorem dX8_bestSet_92 : decode cX8_bestSet 92 = .ok (.iload 4, 2) := by decide +kernel
theorem dX8_bestSet_94 : decode cX8_bestSet 94 = .ok (.ireturn, 1) := by decide +kernel
theorem dX8_couldBePaidBy_0 : decode cX8_couldBePaidBy 0 = .ok (.iconst 0, 1) := by decide +kernel
theorem dX8_couldBePaidBy_1 : decode cX8_couldBePaidBy 1 = .ok (.istore_n 2, 1) := by decide +kernel
theorem dX8_couldBePaidBy_2 : decode cX8_couldBePaidBy 2 = .ok (.iconst 0, 1) := by decide +kernel
theorem dX8_couldBePaidBy_3 : decode cX8_couldBePaidBy 3 = .ok (.istore_n 3, 1) := by decide +kernel
theorem dX8_couldBePaidBy_4 : decode cX8_couldBePaidBy 4 = .ok (.iload_n 3, 1) := by decide +kernel
theorem dX8_couldBePaidBy_5 : decode cX8_couldBePaidBy 5 = .ok (.aload_n 0, 1) := by decide +kernel
theorem dX8_couldBePaidBy_6 : decode cX8_couldBePaidBy 6 = .ok (.getfield 62, 3) := by decide +kernel
theorem dX8_couldBePaidBy_9 : decode cX8_couldBePaidBy 9 = .ok (.if_icmp .ge 32, 3) := by decide +kernel
theorem dX8_couldBePaidBy_12 : decode cX8_couldBePaidBy 12 = .ok (.iload_n 2, 1) := by decide +kernel
theorem dX8_couldBePaidBy_13 : decode cX8_couldBePaidBy 13 = .ok (.aload_n 0, 1) := by decide +kernel
theorem dX8_couldBePaidBy_14 : decode cX8_couldBePaidBy 14 = .ok (.getfield 25, 3) := by decide +kernel
theorem dX8_couldBePaidBy_17 : decode cX8_couldBePaidBy 17 = .ok (.iload_n 3, 1) := by decide +kernel
theorem dX8_couldBePaidBy_18 : decode cX8_couldBePaidBy 18 = .ok (.aaload, 1) := by decide +kernel
theorem dX8_couldBePaidBy_19 : decode cX8_couldBePaidBy 19 = .ok (.getfield 141, 3) := by decide +kernel
theorem dX8_couldBePaidBy_22 : decode cX8_couldBePaidBy 22 = .ok (.iload_n 1, 1) := by decide +kernel
theorem dX8_couldBePaidBy_23 : decode cX8_couldBePaidBy 23 = .ok (.if_icmp .ne 9, 3) := by decide +kernel
theorem dX8_couldBePaidBy_26 : decode cX8_couldBePaidBy 26 = .ok (.iconst 1, 1) := by decide +kernel
theorem dX8_couldBePaidBy_27 : decode cX8_couldBePaidBy 27 = .ok (.iload_n 3, 1) := by decide +kernel
theorem dX8_couldBePaidBy_28 : decode cX8_couldBePaidBy 28 = .ok (.ishl, 1) := by decide +kernel
theorem dX8_couldBePaidBy_29 : decode cX8_couldBePaidBy 29 = .ok (.goto 4, 3) := by decide +kernel
theorem dX8_couldBePaidBy_32 : decode cX8_couldBePaidBy 32 = .ok (.iconst 0, 1) := by decide +kernel
theorem dX8_couldBePaidBy_33 : decode cX8_couldBePaidBy 33 = .ok (.ior, 1) := by decide +kernel
theorem dX8_couldBePaidBy_34 : decode cX8_couldBePaidBy 34 = .ok (.istore_n 2, 1) := by decide +kernel
