theorem dX9_contracts_35 : decode cX9_contracts 35 = .ok (.getfield 91, 3) := by decide +kernel
theorem dX9_contracts_38 : decode cX9_contracts 38 = .ok (.imul, 1) := by decide +kernel
theorem dX9_contracts_39 : decode cX9_contracts 39 = .ok (.if_icmp .ge 21, 3) := by decide +kernel
theorem dX9_contracts_42 : decode cX9_contracts 42 = .ok (.aload_n 0, 1) := by decide +kernel
theorem dX9_contracts_43 : decode cX9_contracts 43 = .ok (.getfield 16, 3) := by decide +kernel
theorem dX9_contracts_46 : decode cX9_contracts 46 = .ok (.iload_n 1, 1) := by decide +kernel
theorem dX9_contracts_47 : decode cX9_contracts 47 = .ok (.aload_n 0, 1) := by decide +kernel
theorem dX9_contracts_48 : decode cX9_contracts 48 = .ok (.getfield 13, 3) := by decide +kernel
theorem dX9_contracts_51 : decode cX9_contracts 51 = .ok (.iload_n 1, 1) := by decide +kernel
theorem dX9_contracts_52 : decode cX9_contracts 52 = .ok (.iaload, 1) := by decide +kernel
theorem dX9_contracts_53 : decode cX9_contracts 53 = .ok (.iastore, 1) := by decide +kernel
theorem dX9_contracts_54 : decode cX9_contracts 54 = .ok (.iinc 1 1, 3) := by decide +kernel
theorem dX9_contracts_57 : decode cX9_contracts 57 = .ok (.goto (-25), 3) := by decide +kernel
theorem dX9_contracts_60 : decode cX9_contracts 60 = .ok (.iconst 0, 1) := by decide +kernel
theorem dX9_contracts_61 : decode cX9_contracts 61 = .ok (.istore_n 1, 1) := by decide +kernel
theorem dX9_contracts_62 : decode cX9_contracts 62 = .ok (.iload_n 1, 1) := by decide +kernel
theorem dX9_contracts_63 : decode cX9_contracts 63 = .ok (.bipush 8, 2) := by decide +kernel
theorem dX9_contracts_65 : decode cX9_contracts 65 = .ok (.if_icmp .ge 17, 3) := by decide +kernel
theorem dX9_contracts_68 : decode cX9_contracts 68 = .ok (.aload_n 0, 1) := by decide +kernel
theorem dX9_contracts_69 : decode cX9_contracts 69 = .ok (.getfield 19, 3) := by decide +kernel
theorem dX9_contracts_72 : decode cX9_contracts 72 = .ok (.iload_n 1, 1) := by decide +kernel
theorem dX9_contracts_73 : decode cX9_contracts 73 = .ok (.bipush 10, 2) := by decide +kernel
theorem dX9_contracts_75 : decode cX9_contracts 75 = .ok (.iastore, 1) := by decide +kernel
theorem dX9_contracts_76 : decode cX9_contracts 76 = .ok (.iinc 1 1, 3) := by decide +kernel
theorem dX9_contracts_79 : decode cX9_contracts 79 = .ok (.goto (-17), 3) := by decide +kernel
theorem dX9_contracts_82 : decode cX9_contracts 82 = .ok (.aload_n 0, 1) := by decide +kernel
theorem dX9_contracts_83 : decode cX9_contracts 83 = .ok (.iconst 1, 1) := by decide +kernel
theorem dX9_contracts_84 : decode cX9_contracts 84 = .ok (.aload_n 0, 1) := by decide +kernel
theorem dX9_contracts_85 : decode cX9_contracts 85 = .ok (.getfield 91, 3) := by decide +kernel
theorem dX9_contracts_88 : decode cX9_contracts 88 = .ok (.ishl, 1) := by decide +kernel
theorem dX9_contracts_89 : decode cX9_contracts 89 = .ok (.iconst 1, 1) := by decide +kernel
theorem dX9_contracts_90 : decode cX9_contracts 90 = .ok (.isub, 1) := by decide +kernel
theorem dX9_contracts_91 : decode cX9_contracts 91 = .ok (.putfield 94, 3) := by decide +kernel
theorem dX9_contracts_94 : decode cX9_contracts 94 = .ok (.aload_n 0, 1) := by decide +kernel
theorem dX9_contracts_95 : decode cX9_contracts 95 = .ok (.dup, 1) := by decide +kernel
theorem dX9_contracts_96 : decode cX9_contracts 96 = .ok (.getfield 97, 3) := by decide +kernel
theorem dX9_contracts_99 : decode cX9_contracts 99 = .ok (.iconst 1, 1) := by decide +kernel
theorem dX9_contracts_100 : decode cX9_contracts 100 = .ok (.iadd, 1) := by decide +kernel
theorem dX9_contracts_101 : decode cX9_contracts 101 = .ok (.putfield 97, 3) := by decide +kernel
theorem dX9_contracts_104 : decode cX9_contracts 104 = .ok (.aload_n 0, 1) := by decide +kernel
theorem dX9_contracts_105 : decode cX9_contracts 105 = .ok (.iconst 0, 1) := by decide +kernel
theorem dX9_contracts_106 : decode cX9_contracts 106 = .ok (.putfield 59, 3) := by decide +kernel
theorem dX9_contracts_109 : decode cX9_contracts 109 = .ok (.aload_n 0, 1) := by decide +kernel
theorem dX9_contracts_110 : decode cX9_contracts 110 = .ok (.getfield 91, 3) := by decide +kernel
theorem dX9_contracts_113 : decode cX9_contracts 113 = .ok (.ireturn, 1) := by decide +kernel
theorem dX9_lacks_0 : decode cX9_lacks 0 = .ok (.aload_n 0, 1) := by decide +kernel
theorem dX9_lacks_1 : decode cX9_lacks 1 = .ok (.getfield 91, 3) := by decide +kernel
theorem dX9_lacks_4 : decode cX9_lacks 4 = .ok (.ifCond .ne 7, 3) := by decide +kernel
theorem dX9_lacks_7 : decode cX9_lacks 7 = .ok (.iconst 1, 1) := by decide +kernel
theorem dX9_lacks_8 : decode cX9_lacks 8 = .ok (.goto 4, 3) := by decide +kernel
theorem dX9_lacks_11 : decode cX9_lacks 11 = .ok (.iconst 0, 1) := by decide +kernel
theorem dX9_lacks_12 : decode cX9_lacks 12 = .ok (.ireturn, 1) := by decide +kernel
theorem dX9_isThief_0 : decode cX9_isThief 0 = .ok (.iload_n 1, 1) := by decide +kernel
theorem dX9_isThief_1 : decode cX9_isThief 1 = .ok (.i2l, 1) := by decide +kernel
theorem dX9_isThief_2 : decode cX9_isThief 2 = .ok (.lconst 0, 1) := by decide +kernel
theorem dX9_isThief_3 : decode cX9_isThief 3 = .ok (.aload_n 0, 1) := by decide +kernel
theorem dX9_isThief_4 : decode cX9_isThief 4 = .ok (.getfield 91, 3) := by decide +kernel
theorem dX9_isThief_7 : decode cX9_isThief 7 = .ok (.iconst 1, 1) := by decide +kernel
theorem dX9_isThief_8 : decode cX9_isThief 8 = .ok (.isub, 1) := by decide +kernel
theorem dX9_isThief_9 : decode cX9_isThief 9 = .ok (.i2l, 1) := by decide +kernel
theorem dX9_isThief_10 : decode cX9_isThief 10 = .ok (.invokestatic 70, 3) := by decide +kernel
theorem dX9_isThief_13 : decode cX9_isThief 13 = .ok (.ireturn, 1) := by decide +kernel
theorem dX9_isHouse_0 : decode cX9_isHouse 0 = .ok (.iload_n 0, 1) := by decide +kernel
theorem dX9_isHouse_1 : decode cX9_isHouse 1 = .ok (.i2l, 1) := by decide +kernel
theorem dX9_isHouse_2 : decode cX9_isHouse 2 = .ok (.lconst 0, 1) := by decide +kernel
theorem dX9_isHouse_3 : decode cX9_isHouse 3 = .ok (.ldc2_w 74, 3) := by decide +kernel
theorem dX9_isHouse_6 : decode cX9_isHouse 6 = .ok (.invokestatic 70, 3) := by decide +kernel
theorem dX9_isHouse_9 : decode cX9_isHouse 9 = .ok (.ireturn, 1) := by decide +kernel
theorem dX9_tell_0 : decode cX9_tell 0 = .ok (.iload_n 2, 1) := by decide +kernel
theorem dX9_tell_1 : decode cX9_tell 1 = .ok (.i2l, 1) := by decide +kernel
theorem dX9_tell_2 : decode cX9_tell 2 = .ok (.lconst 0, 1) := by decide +kernel
theorem dX9_tell_3 : decode cX9_tell 3 = .ok (.ldc2_w 100, 3) := by decide +kernel
theorem dX9_tell_6 : decode cX9_tell 6 = .ok (.invokestatic 70, 3) := by decide +kernel
theorem dX9_tell_9 : decode cX9_tell 9 = .ok (.ifCond .eq 16, 3) := by decide +kernel
theorem dX9_tell_12 : decode cX9_tell 12 = .ok (.aload_n 0, 1) := by decide +kernel
theorem dX9_tell_13 : decode cX9_tell 13 = .ok (.getfield 16, 3) := by decide +kernel
theorem dX9_tell_16 : decode cX9_tell 16 = .ok (.iconst 4, 1) := by decide +kernel
theorem dX9_tell_17 : decode cX9_tell 17 = .ok (.iload_n 1, 1) := by decide +kernel
theorem dX9_tell_18 : decode cX9_tell 18 = .ok (.imul, 1) := by decide +kernel
theorem dX9_tell_19 : decode cX9_tell 19 = .ok (.iload_n 2, 1) := by decide +kernel
theorem dX9_tell_20 : decode cX9_tell 20 = .ok (.iadd, 1) := by decide +kernel
theorem dX9_tell_21 : decode cX9_tell 21 = .ok (.iaload, 1) := by decide +kernel
theorem dX9_tell_22 : decode cX9_tell 22 = .ok (.goto 35, 3) := by decide +kernel
theorem dX9_tell_25 : decode cX9_tell 25 = .ok (.iload_n 2, 1) := by decide +kernel
theorem dX9_tell_26 : decode cX9_tell 26 = .ok (.iconst 4, 1) := by decide +kernel
theorem dX9_tell_27 : decode cX9_tell 27 = .ok (.if_icmp .ne 14, 3) := by decide +kernel
theorem dX9_tell_30 : decode cX9_tell 30 = .ok (.aload_n 0, 1) := by decide +kernel
theorem dX9_tell_31 : decode cX9_tell 31 = .ok (.getfield 94, 3) := by decide +kernel
theorem dX9_tell_34 : decode cX9_tell 34 = .ok (.iload_n 1, 1) := by decide +kernel
theorem dX9_tell_35 : decode cX9_tell 35 = .ok (.ishr, 1) := by decide +kernel
theorem dX9_tell_36 : decode cX9_tell 36 = .ok (.iconst 1, 1) := by decide +kernel
theorem dX9_tell_37 : decode cX9_tell 37 = .ok (.iand, 1) := by decide +kernel
theorem dX9_tell_38 : decode cX9_tell 38 = .ok (.goto 19, 3) := by decide +kernel
theorem dX9_tell_41 : decode cX9_tell 41 = .ok (.iload_n 2, 1) := by decide +kernel
theorem dX9_tell_42 : decode cX9_tell 42 = .ok (.iconst 5, 1) := by decide +kernel
theorem dX9_tell_43 : decode cX9_tell 43 = .ok (.if_icmp .ne 12, 3) := by decide +kernel
theorem dX9_tell_46 : decode cX9_tell 46 = .ok (.aload_n 0, 1) := by decide +kernel
theorem dX9_tell_47 : decode cX9_tell 47 = .ok (.getfield 19, 3) := by decide +kernel
theorem dX9_tell_50 : decode cX9_tell 50 = .ok (.iload_n 1, 1) := by decide +kernel
theorem dX9_tell_51 : decode cX9_tell 51 = .ok (.iaload, 1) := by decide +kernel
theorem dX9_tell_52 : decode cX9_tell 52 = .ok (.goto 5, 3) := by decide +kernel
theorem dX9_tell_55 : decode cX9_tell 55 = .ok (.bipush (-102), 2) := by decide +kernel
theorem dX9_tell_57 : decode cX9_tell 57 = .ok (.ireturn, 1) := by decide +kernel
theorem dX9_about_0 : decode cX9_about 0 = .ok (.aload_n 0, 1) := by decide +kernel
theorem dX9_about_1 : decode cX9_about 1 = .ok (.iload_n 1, 1) := by decide +kernel
theorem dX9_about_2 : decode cX9_about 2 = .ok (.invokevirtual 102, 3) := by decide +kernel
theorem dX9_about_5 : decode cX9_about 5 = .ok (.ifCond .eq 12, 3) := by decide +kernel
theorem dX9_about_8 : decode cX9_about 8 = .ok (.aload_n 0, 1) := by decide +kernel
theorem dX9_about_9 : decode cX9_about 9 = .ok (.iload_n 1, 1) := by decide +kernel
theorem dX9_about_10 : decode cX9_about 10 = .ok (.iload_n 2, 1) := by decide +kernel
theorem dX9_about_11 : decode cX9_about 11 = .ok (.invokevirtual 105, 3) := by decide +kernel
theorem dX9_about_14 : decode cX9_about 14 = .ok (.goto 5, 3) := by decide +kernel
theorem dX9_about_17 : decode cX9_about 17 = .ok (.bipush (-101), 2) := by decide +kernel
theorem dX9_about_19 : decode cX9_about 19 = .ok (.ireturn, 1) := by decide +kernel
theorem dX9_as_0 : decode cX9_as 0 = .ok (.aload_n 0, 1) := by decide +kernel
theorem dX9_as_1 : decode cX9_as 1 = .ok (.iload_n 1, 1) := by decide +kernel
theorem dX9_as_2 : decode cX9_as 2 = .ok (.invokevirtual 102, 3) := by decide +kernel
theorem dX9_as_5 : decode cX9_as 5 = .ok (.ifCond .ne 6, 3) := by decide +kernel
theorem dX9_as_8 : decode cX9_as 8 = .ok (.bipush (-101), 2) := by decide +kernel
theorem dX9_as_10 : decode cX9_as 10 = .ok (.ireturn, 1) := by decide +kernel
theorem dX9_as_11 : decode cX9_as 11 = .ok (.iload_n 2, 1) := by decide +kernel
theorem dX9_as_12 : decode cX9_as 12 = .ok (.i2l, 1) := by decide +kernel
theorem dX9_as_13 : decode cX9_as 13 = .ok (.lconst 0, 1) := by decide +kernel
theorem dX9_as_14 : decode cX9_as 14 = .ok (.ldc2_w 109, 3) := by decide +kernel
theorem dX9_as_17 : decode cX9_as 17 = .ok (.invokestatic 70, 3) := by decide +kernel
theorem dX9_as_20 : decode cX9_as 20 = .ok (.ifCond .ne 6, 3) := by decide +kernel
theorem dX9_as_23 : decode cX9_as 23 = .ok (.bipush (-102), 2) := by decide +kernel
theorem dX9_as_25 : decode cX9_as 25 = .ok (.ireturn, 1) := by decide +kernel
theorem dX9_as_26 : decode cX9_as 26 = .ok (.aload_n 0, 1) := by decide +kernel
theorem dX9_as_27 : decode cX9_as 27 = .ok (.getfield 16, 3) := by decide +kernel
theorem dX9_as_30 : decode cX9_as 30 = .ok (.iconst 4, 1) := by decide +kernel
theorem dX9_as_31 : decode cX9_as 31 = .ok (.iload_n 1, 1) := by decide +kernel
theorem dX9_as_32 : decode cX9_as 32 = .ok (.imul, 1) := by decide +kernel
theorem dX9_as_33 : decode cX9_as 33 = .ok (.iaload, 1) := by decide +kernel
theorem dX9_as_34 : decode cX9_as 34 = .ok (.istore_n 3, 1) := by decide +kernel
theorem dX9_as_35 : decode cX9_as 35 = .ok (.iload_n 2, 1) := by decide +kernel
theorem dX9_as_36 : decode cX9_as 36 = .ok (.ifCond .eq 18, 3) := by decide +kernel
theorem dX9_as_39 : decode cX9_as 39 = .ok (.iload_n 2, 1) := by decide +kernel
theorem dX9_as_40 : decode cX9_as 40 = .ok (.iload_n 3, 1) := by decide +kernel
theorem dX9_as_41 : decode cX9_as 41 = .ok (.if_icmp .eq 13, 3) := by decide +kernel
theorem dX9_as_44 : decode cX9_as 44 = .ok (.iload_n 2, 1) := by decide +kernel
theorem dX9_as_45 : decode cX9_as 45 = .ok (.iconst 1, 1) := by decide +kernel
theorem dX9_as_46 : decode cX9_as 46 = .ok (.if_icmp .ne 12, 3) := by decide +kernel
theorem dX9_as_49 : decode cX9_as 49 = .ok (.iload_n 3, 1) := by decide +kernel
theorem dX9_as_50 : decode cX9_as 50 = .ok (.iconst 4, 1) := by decide +kernel
theorem dX9_as_51 : decode cX9_as 51 = .ok (.if_icmp .ne 7, 3) := by decide +kernel
theorem dX9_as_54 : decode cX9_as 54 = .ok (.iconst 1, 1) := by decide +kernel
theorem dX9_as_55 : decode cX9_as 55 = .ok (.goto 4, 3) := by decide +kernel
theorem dX9_as_58 : decode cX9_as 58 = .ok (.iconst 0, 1) := by decide +kernel
theorem dX9_as_59 : decode cX9_as 59 = .ok (.istore 4, 2) := by decide +kernel
theorem dX9_as_61 : decode cX9_as 61 = .ok (.iload 4, 2) := by decide +kernel
theorem dX9_as_63 : decode cX9_as 63 = .ok (.ifCond .eq 7, 3) := by decide +kernel
theorem dX9_as_66 : decode cX9_as 66 = .ok (.iload_n 1, 1) := by decide +kernel
theorem dX9_as_67 : decode cX9_as 67 = .ok (.goto 4, 3) := by decide +kernel
theorem dX9_as_70 : decode cX9_as 70 = .ok (.iconst (-1), 1) := by decide +kernel
theorem dX9_as_71 : decode cX9_as 71 = .ok (.ireturn, 1) := by decide +kernel
theorem dX9_paid_0 : decode cX9_paid 0 = .ok (.aload_n 0, 1) := by decide +kernel
theorem dX9_paid_1 : decode cX9_paid 1 = .ok (.iload_n 1, 1) := by decide +kernel
theorem dX9_paid_2 : decode cX9_paid 2 = .ok (.invokevirtual 102, 3) := by decide +kernel
theorem dX9_paid_5 : decode cX9_paid 5 = .ok (.ifCond .ne 6, 3) := by decide +kernel
theorem dX9_paid_8 : decode cX9_paid 8 = .ok (.bipush (-101), 2) := by decide +kernel
theorem dX9_paid_10 : decode cX9_paid 10 = .ok (.ireturn, 1) := by decide +kernel
theorem dX9_paid_11 : decode cX9_paid 11 = .ok (.aload_n 0, 1) := by decide +kernel
theorem dX9_paid_12 : decode cX9_paid 12 = .ok (.getfield 94, 3) := by decide +kernel
theorem dX9_paid_15 : decode cX9_paid 15 = .ok (.iload_n 1, 1) := by decide +kernel
theorem dX9_paid_16 : decode cX9_paid 16 = .ok (.ishr, 1) := by decide +kernel
theorem dX9_paid_17 : decode cX9_paid 17 = .ok (.iconst 1, 1) := by decide +kernel
theorem dX9_paid_18 : decode cX9_paid 18 = .ok (.iand, 1) := by decide +kernel
theorem dX9_paid_19 : decode cX9_paid 19 = .ok (.istore_n 3, 1) := by decide +kernel
theorem dX9_paid_20 : decode cX9_paid 20 = .ok (.aload_n 0, 1) := by decide +kernel
theorem dX9_paid_21 : decode cX9_paid 21 = .ok (.iload_n 2, 1) := by decide +kernel
theorem dX9_paid_22 : decode cX9_paid 22 = .ok (.ifCond .eq 14, 3) := by decide +kernel
theorem dX9_paid_25 : decode cX9_paid 25 = .ok (.aload_n 0, 1) := by decide +kernel
theorem dX9_paid_26 : decode cX9_paid 26 = .ok (.getfield 94, 3) := by decide +kernel
theorem dX9_paid_29 : decode cX9_paid 29 = .ok (.iconst 1, 1) := by decide +kernel
theorem dX9_paid_30 : decode cX9_paid 30 = .ok (.iload_n 1, 1) := by decide +kernel
theorem dX9_paid_31 : decode cX9_paid 31 = .ok (.ishl, 1) := by decide +kernel
theorem dX9_paid_32 : decode cX9_paid 32 = .ok (.ior, 1) := by decide +kernel
theorem dX9_paid_33 : decode cX9_paid 33 = .ok (.goto 13, 3) := by decide +kernel
theorem dX9_paid_36 : decode cX9_paid 36 = .ok (.aload_n 0, 1) := by decide +kernel
theorem dX9_paid_37 : decode cX9_paid 37 = .ok (.getfield 94, 3) := by decide +kernel
theorem dX9_paid_40 : decode cX9_paid 40 = .ok (.iconst 1, 1) := by decide +kernel
theorem dX9_paid_41 : decode cX9_paid 41 = .ok (.iload_n 1, 1) := by decide +kernel
theorem dX9_paid_42 : decode cX9_paid 42 = .ok (.ishl, 1) := by decide +kernel
theorem dX9_paid_43 : decode cX9_paid 43 = .ok (.iconst (-1), 1) := by decide +kernel
theorem dX9_paid_44 : decode cX9_paid 44 = .ok (.ixor, 1) := by decide +kernel
theorem dX9_paid_45 : decode cX9_paid 45 = .ok (.iand, 1) := by decide +kernel
theorem dX9_paid_46 : decode cX9_paid 46 = .ok (.putfield 94, 3) := by decide +kernel
theorem dX9_paid_49 : decode cX9_paid 49 = .ok (.iload_n 3, 1) := by decide +kernel
theorem dX9_paid_50 : decode cX9_paid 50 = .ok (.ireturn, 1) := by decide +kernel
theorem dX9_tenths_0 : decode cX9_tenths 0 = .ok (.aload_n 0, 1) := by decide +kernel
theorem dX9_tenths_1 : decode cX9_tenths 1 = .ok (.iload_n 1, 1) := by decide +kernel
theorem dX9_tenths_2 : decode cX9_tenths 2 = .ok (.invokevirtual 102, 3) := by decide +kernel
theorem dX9_tenths_5 : decode cX9_tenths 5 = .ok (.ifCond .ne 6, 3) := by decide +kernel
theorem dX9_tenths_8 : decode cX9_tenths 8 = .ok (.bipush (-101), 2) := by decide +kernel
theorem dX9_tenths_10 : decode cX9_tenths 10 = .ok (.ireturn, 1) := by decide +kernel
theorem dX9_tenths_11 : decode cX9_tenths 11 = .ok (.iload_n 2, 1) := by decide +kernel
theorem dX9_tenths_12 : decode cX9_tenths 12 = .ok (.i2l, 1) := by decide +kernel
theorem dX9_tenths_13 : decode cX9_tenths 13 = .ok (.lconst 0, 1) := by decide +kernel
theorem dX9_tenths_14 : decode cX9_tenths 14 = .ok (.ldc2_w 111, 3) := by decide +kernel
theorem dX9_tenths_17 : decode cX9_tenths 17 = .ok (.invokestatic 70, 3) := by decide +kernel
theorem dX9_tenths_20 : decode cX9_tenths 20 = .ok (.ifCond .ne 6, 3) := by decide +kernel
theorem dX9_tenths_23 : decode cX9_tenths 23 = .ok (.bipush (-102), 2) := by decide +kernel
theorem dX9_tenths_25 : decode cX9_tenths 25 = .ok (.ireturn, 1) := by decide +kernel
theorem dX9_tenths_26 : decode cX9_tenths 26 = .ok (.aload_n 0, 1) := by decide +kernel
theorem dX9_tenths_27 : decode cX9_tenths 27 = .ok (.getfield 19, 3) := by decide +kernel
theorem dX9_tenths_30 : decode cX9_tenths 30 = .ok (.iload_n 1, 1) := by decide +kernel
theorem dX9_tenths_31 : decode cX9_tenths 31 = .ok (.iaload, 1) := by decide +kernel
theorem dX9_tenths_32 : decode cX9_tenths 32 = .ok (.istore_n 3, 1) := by decide +kernel
theorem dX9_tenths_33 : decode cX9_tenths 33 = .ok (.aload_n 0, 1) := by decide +kernel
theorem dX9_tenths_34 : decode cX9_tenths 34 = .ok (.getfield 19, 3) := by decide +kernel
theorem dX9_tenths_37 : decode cX9_tenths 37 = .ok (.iload_n 1, 1) := by decide +kernel
theorem dX9_tenths_38 : decode cX9_tenths 38 = .ok (.iload_n 2, 1) := by decide +kernel
theorem dX9_tenths_39 : decode cX9_tenths 39 = .ok (.iastore, 1) := by decide +kernel
theorem dX9_tenths_40 : decode cX9_tenths 40 = .ok (.iload_n 3, 1) := by decide +kernel
theorem dX9_tenths_41 : decode cX9_tenths 41 = .ok (.ireturn, 1) := by decide +kernel
theorem dX9_isSpoon_0 : decode cX9_isSpoon 0 = .ok (.iload_n 1, 1) := by decide +kernel
theorem dX9_isSpoon_1 : decode cX9_isSpoon 1 = .ok (.i2l, 1) := by decide +kernel
theorem dX9_isSpoon_2 : decode cX9_isSpoon 2 = .ok (.lconst 0, 1) := by decide +kernel
theorem dX9_isSpoon_3 : decode cX9_isSpoon 3 = .ok (.aload_n 0, 1) := by decide +kernel
theorem dX9_isSpoon_4 : decode cX9_isSpoon 4 = .ok (.getfield 113, 3) := by decide +kernel
theorem dX9_isSpoon_7 : decode cX9_isSpoon 7 = .ok (.iconst 1, 1) := by decide +kernel
theorem dX9_isSpoon_8 : decode cX9_isSpoon 8 = .ok (.isub, 1) := by decide +kernel
theorem dX9_isSpoon_9 : decode cX9_isSpoon 9 = .ok (.i2l, 1) := by decide +kernel
theorem dX9_isSpoon_10 : decode cX9_isSpoon 10 = .ok (.invokestatic 70, 3) := by decide +kernel
theorem dX9_isSpoon_13 : decode cX9_isSpoon 13 = .ok (.ireturn, 1) := by decide +kernel
theorem dX9_lock_0 : decode cX9_lock 0 = .ok (.iload_n 1, 1) := by decide +kernel
theorem dX9_lock_1 : decode cX9_lock 1 = .ok (.invokestatic 116, 3) := by decide +kernel
theorem dX9_lock_4 : decode cX9_lock 4 = .ok (.ifCond .ne 6, 3) := by decide +kernel
theorem dX9_lock_7 : decode cX9_lock 7 = .ok (.bipush (-101), 2) := by decide +kernel
theorem dX9_lock_9 : decode cX9_lock 9 = .ok (.ireturn, 1) := by decide +kernel
theorem dX9_lock_10 : decode cX9_lock 10 = .ok (.iload_n 2, 1) := by decide +kernel
theorem dX9_lock_11 : decode cX9_lock 11 = .ok (.i2l, 1) := by decide +kernel
theorem dX9_lock_12 : decode cX9_lock 12 = .ok (.lconst 0, 1) := by decide +kernel
theorem dX9_lock_13 : decode cX9_lock 13 = .ok (.ldc2_w 68, 3) := by decide +kernel
theorem dX9_lock_16 : decode cX9_lock 16 = .ok (.invokestatic 70, 3) := by decide +kernel
theorem dX9_lock_19 : decode cX9_lock 19 = .ok (.ifCond .ne 6, 3) := by decide +kernel
theorem dX9_lock_22 : decode cX9_lock 22 = .ok (.bipush (-102), 2) := by decide +kernel
theorem dX9_lock_24 : decode cX9_lock 24 = .ok (.ireturn, 1) := by decide +kernel
theorem dX9_lock_25 : decode cX9_lock 25 = .ok (.aload_n 0, 1) := by decide +kernel
theorem dX9_lock_26 : decode cX9_lock 26 = .ok (.getfield 22, 3) := by decide +kernel
theorem dX9_lock_29 : decode cX9_lock 29 = .ok (.iload_n 1, 1) := by decide +kernel
theorem dX9_lock_30 : decode cX9_lock 30 = .ok (.iaload, 1) := by decide +kernel
theorem dX9_lock_31 : decode cX9_lock 31 = .ok (.istore_n 3, 1) := by decide +kernel
theorem dX9_lock_32 : decode cX9_lock 32 = .ok (.aload_n 0, 1) := by decide +kernel
theorem dX9_lock_33 : decode cX9_lock 33 = .ok (.getfield 22, 3) := by decide +kernel
theorem dX9_lock_36 : decode cX9_lock 36 = .ok (.iload_n 1, 1) := by decide +kernel
theorem dX9_lock_37 : decode cX9_lock 37 = .ok (.iload_n 2, 1) := by decide +kernel
theorem dX9_lock_38 : decode cX9_lock 38 = .ok (.iastore, 1) := by decide +kernel
theorem dX9_lock_39 : decode cX9_lock 39 = .ok (.iload_n 3, 1) := by decide +kernel
theorem dX9_lock_40 : decode cX9_lock 40 = .ok (.ireturn, 1) := by decide +kernel
theorem dX9_dog_0 : decode cX9_dog 0 = .ok (.iload_n 1, 1) := by decide +kernel
theorem dX9_dog_1 : decode cX9_dog 1 = .ok (.invokestatic 116, 3) := by decide +kernel
theorem dX9_dog_4 : decode cX9_dog 4 = .ok (.ifCond .ne 6, 3) := by decide +kernel
theorem dX9_dog_7 : decode cX9_dog 7 = .ok (.bipush (-101), 2) := by decide +kernel
theorem dX9_dog_9 : decode cX9_dog 9 = .ok (.ireturn, 1) := by decide +kernel
theorem dX9_dog_10 : decode cX9_dog 10 = .ok (.aload_n 0, 1) := by decide +kernel
theorem dX9_dog_11 : decode cX9_dog 11 = .ok (.getfield 119, 3) := by decide +kernel
theorem dX9_dog_14 : decode cX9_dog 14 = .ok (.iload_n 1, 1) := by decide +kernel
theorem dX9_dog_15 : decode cX9_dog 15 = .ok (.ishr, 1) := by decide +kernel
theorem dX9_dog_16 : decode cX9_dog 16 = .ok (.iconst 1, 1) := by decide +kernel
theorem dX9_dog_17 : decode cX9_dog 17 = .ok (.iand, 1) := by decide +kernel
theorem dX9_dog_18 : decode cX9_dog 18 = .ok (.istore_n 3, 1) := by decide +kernel
theorem dX9_dog_19 : decode cX9_dog 19 = .ok (.aload_n 0, 1) := by decide +kernel
theorem dX9_dog_20 : decode cX9_dog 20 = .ok (.iload_n 2, 1) := by decide +kernel
theorem dX9_dog_21 : decode cX9_dog 21 = .ok (.ifCond .eq 14, 3) := by decide +kernel
theorem dX9_dog_24 : decode cX9_dog 24 = .ok (.aload_n 0, 1) := by decide +kernel
theorem dX9_dog_25 : decode cX9_dog 25 = .ok (.getfield 119, 3) := by decide +kernel
theorem dX9_dog_28 : decode cX9_dog 28 = .ok (.iconst 1, 1) := by decide +kernel
theorem dX9_dog_29 : decode cX9_dog 29 = .ok (.iload_n 1, 1) := by decide +kernel
theorem dX9_dog_30 : decode cX9_dog 30 = .ok (.ishl, 1) := by decide +kernel
theorem dX9_dog_31 : decode cX9_dog 31 = .ok (.ior, 1) := by decide +kernel
theorem dX9_dog_32 : decode cX9_dog 32 = .ok (.goto 13, 3) := by decide +kernel
theorem dX9_dog_35 : decode cX9_dog 35 = .ok (.aload_n 0, 1) := by decide +kernel
theorem dX9_dog_36 : decode cX9_dog 36 = .ok (.getfield 119, 3) := by decide +kernel
theorem dX9_dog_39 : decode cX9_dog 39 = .ok (.iconst 1, 1) := by decide +kernel
theorem dX9_dog_40 : decode cX9_dog 40 = .ok (.iload_n 1, 1) := by decide +kernel
theorem dX9_dog_41 : decode cX9_dog 41 = .ok (.ishl, 1) := by decide +kernel
theorem dX9_dog_42 : decode cX9_dog 42 = .ok (.iconst (-1), 1) := by decide +kernel
theorem dX9_dog_43 : decode cX9_dog 43 = .ok (.ixor, 1) := by decide +kernel
theorem dX9_dog_44 : decode cX9_dog 44 = .ok (.iand, 1) := by decide +kernel
theorem dX9_dog_45 : decode cX9_dog 45 = .ok (.putfield 119, 3) := by decide +kernel
theorem dX9_dog_48 : decode cX9_dog 48 = .ok (.iload_n 3, 1) := by decide +kernel
theorem dX9_dog_49 : decode cX9_dog 49 = .ok (.ireturn, 1) := by decide +kernel
theorem dX9_spoon_0 : decode cX9_spoon 0 = .ok (.iload_n 1, 1) := by decide +kernel
theorem dX9_spoon_1 : decode cX9_spoon 1 = .ok (.invokestatic 116, 3) := by decide +kernel
theorem dX9_spoon_4 : decode cX9_spoon 4 = .ok (.ifCond .ne 6, 3) := by decide +kernel
theorem dX9_spoon_7 : decode cX9_spoon 7 = .ok (.bipush (-101), 2) := by decide +kernel
theorem dX9_spoon_9 : decode cX9_spoon 9 = .ok (.ireturn, 1) := by decide +kernel
theorem dX9_spoon_10 : decode cX9_spoon 10 = .ok (.iload_n 2, 1) := by decide +kernel
theorem dX9_spoon_11 : decode cX9_spoon 11 = .ok (.i2l, 1) := by decide +kernel
theorem dX9_spoon_12 : decode cX9_spoon 12 = .ok (.lconst 1, 1) := by decide +kernel
theorem dX9_spoon_13 : decode cX9_spoon 13 = .ok (.ldc2_w 122, 3) := by decide +kernel
theorem dX9_spoon_16 : decode cX9_spoon 16 = .ok (.invokestatic 70, 3) := by decide +kernel
theorem dX9_spoon_19 : decode cX9_spoon 19 = .ok (.ifCond .ne 6, 3) := by decide +kernel
theorem dX9_spoon_22 : decode cX9_spoon 22 = .ok (.bipush (-102), 2) := by decide +kernel
theorem dX9_spoon_24 : decode cX9_spoon 24 = .ok (.ireturn, 1) := by decide +kernel
theorem dX9_spoon_25 : decode cX9_spoon 25 = .ok (.aload_n 0, 1) := by decide +kernel
theorem dX9_spoon_26 : decode cX9_spoon 26 = .ok (.getfield 113, 3) := by decide +kernel
theorem dX9_spoon_29 : decode cX9_spoon 29 = .ok (.bipush 8, 2) := by decide +kernel
theorem dX9_spoon_31 : decode cX9_spoon 31 = .ok (.if_icmp .ne 6, 3) := by decide +kernel
theorem dX9_spoon_34 : decode cX9_spoon 34 = .ok (.bipush (-104), 2) := by decide +kernel
theorem dX9_spoon_36 : decode cX9_spoon 36 = .ok (.ireturn, 1) := by decide +kernel
theorem dX9_spoon_37 : decode cX9_spoon 37 = .ok (.aload_n 0, 1) := by decide +kernel
theorem dX9_spoon_38 : decode cX9_spoon 38 = .ok (.getfield 25, 3) := by decide +kernel
theorem dX9_spoon_41 : decode cX9_spoon 41 = .ok (.iconst 4, 1) := by decide +kernel
theorem dX9_spoon_42 : decode cX9_spoon 42 = .ok (.aload_n 0, 1) := by decide +kernel
theorem dX9_spoon_43 : decode cX9_spoon 43 = .ok (.getfield 113, 3) := by decide +kernel
theorem dX9_spoon_46 : decode cX9_spoon 46 = .ok (.imul, 1) := by decide +kernel
theorem dX9_spoon_47 : decode cX9_spoon 47 = .ok (.iload_n 2, 1) := by decide +kernel
theorem dX9_spoon_48 : decode cX9_spoon 48 = .ok (.iastore, 1) := by decide +kernel
theorem dX9_spoon_49 : decode cX9_spoon 49 = .ok (.aload_n 0, 1) := by decide +kernel
theorem dX9_spoon_50 : decode cX9_spoon 50 = .ok (.getfield 25, 3) := by decide +kernel
theorem dX9_spoon_53 : decode cX9_spoon 53 = .ok (.iconst 4, 1) := by decide +kernel
theorem dX9_spoon_54 : decode cX9_spoon 54 = .ok (.aload_n 0, 1) := by decide +kernel
theorem dX9_spoon_55 : decode cX9_spoon 55 = .ok (.getfield 113, 3) := by decide +kernel
theorem dX9_spoon_58 : decode cX9_spoon 58 = .ok (.imul, 1) := by decide +kernel
theorem dX9_spoon_59 : decode cX9_spoon 59 = .ok (.iconst 1, 1) := by decide +kernel
theorem dX9_spoon_60 : decode cX9_spoon 60 = .ok (.iadd, 1) := by decide +kernel
theorem dX9_spoon_61 : decode cX9_spoon 61 = .ok (.iload_n 1, 1) := by decide +kernel
theorem dX9_spoon_62 : decode cX9_spoon 62 = .ok (.iastore, 1) := by decide +kernel
theorem dX9_spoon_63 : decode cX9_spoon 63 = .ok (.aload_n 0, 1) := by decide +kernel
theorem dX9_spoon_64 : decode cX9_spoon 64 = .ok (.getfield 25, 3) := by decide +kernel
theorem dX9_spoon_67 : decode cX9_spoon 67 = .ok (.iconst 4, 1) := by decide +kernel
theorem dX9_spoon_68 : decode cX9_spoon 68 = .ok (.aload_n 0, 1) := by decide +kernel
theorem dX9_spoon_69 : decode cX9_spoon 69 = .ok (.getfield 113, 3) := by decide +kernel
theorem dX9_spoon_72 : decode cX9_spoon 72 = .ok (.imul, 1) := by decide +kernel
theorem dX9_spoon_73 : decode cX9_spoon 73 = .ok (.iconst 2, 1) := by decide +kernel
theorem dX9_spoon_74 : decode cX9_spoon 74 = .ok (.iadd, 1) := by decide +kernel
theorem dX9_spoon_75 : decode cX9_spoon 75 = .ok (.iload_n 1, 1) := by decide +kernel
theorem dX9_spoon_76 : decode cX9_spoon 76 = .ok (.iastore, 1) := by decide +kernel
theorem dX9_spoon_77 : decode cX9_spoon 77 = .ok (.aload_n 0, 1) := by decide +kernel
theorem dX9_spoon_78 : decode cX9_spoon 78 = .ok (.getfield 25, 3) := by decide +kernel
theorem dX9_spoon_81 : decode cX9_spoon 81 = .ok (.iconst 4, 1) := by decide +kernel
theorem dX9_spoon_82 : decode cX9_spoon 82 = .ok (.aload_n 0, 1) := by decide +kernel
theorem dX9_spoon_83 : decode cX9_spoon 83 = .ok (.getfield 113, 3) := by decide +kernel
theorem dX9_spoon_86 : decode cX9_spoon 86 = .ok (.imul, 1) := by decide +kernel
theorem dX9_spoon_87 : decode cX9_spoon 87 = .ok (.iconst 3, 1) := by decide +kernel
theorem dX9_spoon_88 : decode cX9_spoon 88 = .ok (.iadd, 1) := by decide +kernel
theorem dX9_spoon_89 : decode cX9_spoon 89 = .ok (.iconst (-1), 1) := by decide +kernel
theorem dX9_spoon_90 : decode cX9_spoon 90 = .ok (.iastore, 1) := by decide +kernel
theorem dX9_spoon_91 : decode cX9_spoon 91 = .ok (.aload_n 0, 1) := by decide +kernel
theorem dX9_spoon_92 : decode cX9_spoon 92 = .ok (.dup, 1) := by decide +kernel
theorem dX9_spoon_93 : decode cX9_spoon 93 = .ok (.getfield 113, 3) := by decide +kernel
theorem dX9_spoon_96 : decode cX9_spoon 96 = .ok (.iconst 1, 1) := by decide +kernel
theorem dX9_spoon_97 : decode cX9_spoon 97 = .ok (.iadd, 1) := by decide +kernel
theorem dX9_spoon_98 : decode cX9_spoon 98 = .ok (.putfield 113, 3) := by decide +kernel
theorem dX9_spoon_101 : decode cX9_spoon 101 = .ok (.aload_n 0, 1) := by decide +kernel
theorem dX9_spoon_102 : decode cX9_spoon 102 = .ok (.getfield 113, 3) := by decide +kernel
theorem dX9_spoon_105 : decode cX9_spoon 105 = .ok (.iconst 1, 1) := by decide +kernel
theorem dX9_spoon_106 : decode cX9_spoon 106 = .ok (.isub, 1) := by decide +kernel
theorem dX9_spoon_107 : decode cX9_spoon 107 = .ok (.ireturn, 1) := by decide +kernel
theorem dX9_silver_0 : decode cX9_silver 0 = .ok (.aload_n 0, 1) := by decide +kernel
theorem dX9_silver_1 : decode cX9_silver 1 = .ok (.iload_n 1, 1) := by decide +kernel
theorem dX9_silver_2 : decode cX9_silver 2 = .ok (.invokevirtual 124, 3) := by decide +kernel
theorem dX9_silver_5 : decode cX9_silver 5 = .ok (.ifCond .ne 6, 3) := by decide +kernel
theorem dX9_silver_8 : decode cX9_silver 8 = .ok (.bipush (-101), 2) := by decide +kernel
theorem dX9_silver_10 : decode cX9_silver 10 = .ok (.ireturn, 1) := by decide +kernel
theorem dX9_silver_11 : decode cX9_silver 11 = .ok (.iload_n 2, 1) := by decide +kernel
theorem dX9_silver_12 : decode cX9_silver 12 = .ok (.i2l, 1) := by decide +kernel
theorem dX9_silver_13 : decode cX9_silver 13 = .ok (.lconst 0, 1) := by decide +kernel
theorem dX9_silver_14 : decode cX9_silver 14 = .ok (.ldc2_w 100, 3) := by decide +kernel
theorem dX9_silver_17 : decode cX9_silver 17 = .ok (.invokestatic 70, 3) := by decide +kernel
theorem dX9_silver_20 : decode cX9_silver 20 = .ok (.ifCond .eq 16, 3) := by decide +kernel
theorem dX9_silver_23 : decode cX9_silver 23 = .ok (.aload_n 0, 1) := by decide +kernel
theorem dX9_silver_24 : decode cX9_silver 24 = .ok (.getfield 25, 3) := by decide +kernel
theorem dX9_silver_27 : decode cX9_silver 27 = .ok (.iconst 4, 1) := by decide +kernel
theorem dX9_silver_28 : decode cX9_silver 28 = .ok (.iload_n 1, 1) := by decide +kernel
theorem dX9_silver_29 : decode cX9_silver 29 = .ok (.imul, 1) := by decide +kernel
theorem dX9_silver_30 : decode cX9_silver 30 = .ok (.iload_n 2, 1) := by decide +kernel
theorem dX9_silver_31 : decode cX9_silver 31 = .ok (.iadd, 1) := by decide +kernel
theorem dX9_silver_32 : decode cX9_silver 32 = .ok (.iaload, 1) := by decide +kernel
theorem dX9_silver_33 : decode cX9_silver 33 = .ok (.goto 5, 3) := by decide +kernel
theorem dX9_silver_36 : decode cX9_silver 36 = .ok (.bipush (-102), 2) := by decide +kernel
theorem dX9_silver_38 : decode cX9_silver 38 = .ok (.ireturn, 1) := by decide +kernel
theorem dX9_worthOf_0 : decode cX9_worthOf 0 = .ok (.iconst 0, 1) := by decide +kernel
theorem dX9_worthOf_1 : decode cX9_worthOf 1 = .ok (.istore_n 2, 1) := by decide +kernel
theorem dX9_worthOf_2 : decode cX9_worthOf 2 = .ok (.iconst 0, 1) := by decide +kernel
theorem dX9_worthOf_3 : decode cX9_worthOf 3 = .ok (.istore_n 3, 1) := by decide +kernel
theorem dX9_worthOf_4 : decode cX9_worthOf 4 = .ok (.iload_n 3, 1) := by decide +kernel
theorem dX9_worthOf_5 : decode cX9_worthOf 5 = .ok (.aload_n 0, 1) := by decide +kernel
theorem dX9_worthOf_6 : decode cX9_worthOf 6 = .ok (.getfield 113, 3) := by decide +kernel
theorem dX9_worthOf_9 : decode cX9_worthOf 9 = .ok (.if_icmp .ge 38, 3) := by decide +kernel
theorem dX9_worthOf_12 : decode cX9_worthOf 12 = .ok (.iload_n 2, 1) := by decide +kernel
theorem dX9_worthOf_13 : decode cX9_worthOf 13 = .ok (.aload_n 0, 1) := by decide +kernel
theorem dX9_worthOf_14 : decode cX9_worthOf 14 = .ok (.getfield 25, 3) := by decide +kernel
theorem dX9_worthOf_17 : decode cX9_worthOf 17 = .ok (.iconst 4, 1) := by decide +kernel
theorem dX9_worthOf_18 : decode cX9_worthOf 18 = .ok (.iload_n 3, 1) := by decide +kernel
theorem dX9_worthOf_19 : decode cX9_worthOf 19 = .ok (.imul, 1) := by decide +kernel
theorem dX9_worthOf_20 : decode cX9_worthOf 20 = .ok (.iconst 2, 1) := by decide +kernel
theorem dX9_worthOf_21 : decode cX9_worthOf 21 = .ok (.iadd, 1) := by decide +kernel
theorem dX9_worthOf_22 : decode cX9_worthOf 22 = .ok (.iaload, 1) := by decide +kernel
theorem dX9_worthOf_23 : decode cX9_worthOf 23 = .ok (.iload_n 1, 1) := by decide +kernel
theorem dX9_worthOf_24 : decode cX9_worthOf 24 = .ok (.if_icmp .ne 14, 3) := by decide +kernel
theorem dX9_worthOf_27 : decode cX9_worthOf 27 = .ok (.aload_n 0, 1) := by decide +kernel
theorem dX9_worthOf_28 : decode cX9_worthOf 28 = .ok (.getfield 25, 3) := by decide +kernel
theorem dX9_worthOf_31 : decode cX9_worthOf 31 = .ok (.iconst 4, 1) := by decide +kernel
theorem dX9_worthOf_32 : decode cX9_worthOf 32 = .ok (.iload_n 3, 1) := by decide +kernel
theorem dX9_worthOf_33 : decode cX9_worthOf 33 = .ok (.imul, 1) := by decide +kernel
theorem dX9_worthOf_34 : decode cX9_worthOf 34 = .ok (.iaload, 1) := by decide +kernel
theorem dX9_worthOf_35 : decode cX9_worthOf 35 = .ok (.goto 4, 3) := by decide +kernel
theorem dX9_worthOf_38 : decode cX9_worthOf 38 = .ok (.iconst 0, 1) := by decide +kernel
theorem dX9_worthOf_39 : decode cX9_worthOf 39 = .ok (.iadd, 1) := by decide +kernel
theorem dX9_worthOf_40 : decode cX9_worthOf 40 = .ok (.istore_n 2, 1) := by decide +kernel
theorem dX9_worthOf_41 : decode cX9_worthOf 41 = .ok (.iinc 3 1, 3) := by decide +kernel
theorem dX9_worthOf_44 : decode cX9_worthOf 44 = .ok (.goto (-40), 3) := by decide +kernel
theorem dX9_worthOf_47 : decode cX9_worthOf 47 = .ok (.iload_n 2, 1) := by decide +kernel
theorem dX9_worthOf_48 : decode cX9_worthOf 48 = .ok (.ireturn, 1) := by decide +kernel
theorem dX9_worth_0 : decode cX9_worth 0 = .ok (.iload_n 1, 1) := by decide +kernel
theorem dX9_worth_1 : decode cX9_worth 1 = .ok (.invokestatic 116, 3) := by decide +kernel
theorem dX9_worth_4 : decode cX9_worth 4 = .ok (.ifCond .eq 11, 3) := by decide +kernel
theorem dX9_worth_7 : decode cX9_worth 7 = .ok (.aload_n 0, 1) := by decide +kernel
theorem dX9_worth_8 : decode cX9_worth 8 = .ok (.iload_n 1, 1) := by decide +kernel
theorem dX9_worth_9 : decode cX9_worth 9 = .ok (.invokevirtual 127, 3) := by decide +kernel
theorem dX9_worth_12 : decode cX9_worth 12 = .ok (.goto 5, 3) := by decide +kernel
theorem dX9_worth_15 : decode cX9_worth 15 = .ok (.bipush (-101), 2) := by decide +kernel
theorem dX9_worth_17 : decode cX9_worth 17 = .ok (.ireturn, 1) := by decide +kernel
theorem dX9_begin_0 : decode cX9_begin 0 = .ok (.iconst 0, 1) := by decide +kernel
theorem dX9_begin_1 : decode cX9_begin 1 = .ok (.istore_n 1, 1) := by decide +kernel
theorem dX9_begin_2 : decode cX9_begin 2 = .ok (.iload_n 1, 1) := by decide +kernel
theorem dX9_begin_3 : decode cX9_begin 3 = .ok (.bipush 8, 2) := by decide +kernel
theorem dX9_begin_5 : decode cX9_begin 5 = .ok (.if_icmp .ge 49, 3) := by decide +kernel
theorem dX9_begin_8 : decode cX9_begin 8 = .ok (.aload_n 0, 1) := by decide +kernel
theorem dX9_begin_9 : decode cX9_begin 9 = .ok (.getfield 28, 3) := by decide +kernel
theorem dX9_begin_12 : decode cX9_begin 12 = .ok (.iload_n 1, 1) := by decide +kernel
theorem dX9_begin_13 : decode cX9_begin 13 = .ok (.iload_n 1, 1) := by decide +kernel
theorem dX9_begin_14 : decode cX9_begin 14 = .ok (.aload_n 0, 1) := by decide +kernel
theorem dX9_begin_15 : decode cX9_begin 15 = .ok (.getfield 113, 3) := by decide +kernel
theorem dX9_begin_18 : decode cX9_begin 18 = .ok (.if_icmp .ge 16, 3) := by decide +kernel
theorem dX9_begin_21 : decode cX9_begin 21 = .ok (.aload_n 0, 1) := by decide +kernel
theorem dX9_begin_22 : decode cX9_begin 22 = .ok (.getfield 25, 3) := by decide +kernel
theorem dX9_begin_25 : decode cX9_begin 25 = .ok (.iconst 4, 1) := by decide +kernel
theorem dX9_begin_26 : decode cX9_begin 26 = .ok (.iload_n 1, 1) := by decide +kernel
theorem dX9_begin_27 : decode cX9_begin 27 = .ok (.imul, 1) := by decide +kernel
theorem dX9_begin_28 : decode cX9_begin 28 = .ok (.iconst 2, 1) := by decide +kernel
theorem dX9_begin_29 : decode cX9_begin 29 = .ok (.iadd, 1) := by decide +kernel
theorem dX9_begin_30 : decode cX9_begin 30 = .ok (.iaload, 1) := by decide +kernel
theorem dX9_begin_31 : decode cX9_begin 31 = .ok (.goto 4, 3) := by decide +kernel
theorem dX9_begin_34 : decode cX9_begin 34 = .ok (.iconst (-1), 1) := by decide +kernel
theorem dX9_begin_35 : decode cX9_begin 35 = .ok (.iastore, 1) := by decide +kernel
theorem dX9_begin_36 : decode cX9_begin 36 = .ok (.aload_n 0, 1) := by decide +kernel
theorem dX9_begin_37 : decode cX9_begin 37 = .ok (.getfield 31, 3) := by decide +kernel
theorem dX9_begin_40 : decode cX9_begin 40 = .ok (.iload_n 1, 1) := by decide +kernel
theorem dX9_begin_41 : decode cX9_begin 41 = .ok (.aload_n 0, 1) := by decide +kernel
theorem dX9_begin_42 : decode cX9_begin 42 = .ok (.getfield 22, 3) := by decide +kernel
theorem dX9_begin_45 : decode cX9_begin 45 = .ok (.iload_n 1, 1) := by decide +kernel
theorem dX9_begin_46 : decode cX9_begin 46 = .ok (.iaload, 1) := by decide +kernel
theorem dX9_begin_47 : decode cX9_begin 47 = .ok (.iastore, 1) := by decide +kernel
theorem dX9_begin_48 : decode cX9_begin 48 = .ok (.iinc 1 1, 3) := by decide +kernel
theorem dX9_begin_51 : decode cX9_begin 51 = .ok (.goto (-49), 3) := by decide +kernel
theorem dX9_begin_54 : decode cX9_begin 54 = .ok (.return_, 1) := by decide +kernel
theorem dX9_fromOf_0 : decode cX9_fromOf 0 = .ok (.aload_n 0, 1) := by decide +kernel
theorem dX9_fromOf_1 : decode cX9_fromOf 1 = .ok (.getfield 16, 3) := by decide +kernel
theorem dX9_fromOf_4 : decode cX9_fromOf 4 = .ok (.iconst 4, 1) := by decide +kernel
theorem dX9_fromOf_5 : decode cX9_fromOf 5 = .ok (.iload_n 1, 1) := by decide +kernel
theorem dX9_fromOf_6 : decode cX9_fromOf 6 = .ok (.imul, 1) := by decide +kernel
theorem dX9_fromOf_7 : decode cX9_fromOf 7 = .ok (.iload_n 2, 1) := by decide +kernel
theorem dX9_fromOf_8 : decode cX9_fromOf 8 = .ok (.iload_n 1, 1) := by decide +kernel
theorem dX9_fromOf_9 : decode cX9_fromOf 9 = .ok (.ishr, 1) := by decide +kernel
theorem dX9_fromOf_10 : decode cX9_fromOf 10 = .ok (.iconst 1, 1) := by decide +kernel
theorem dX9_fromOf_11 : decode cX9_fromOf 11 = .ok (.iand, 1) := by decide +kernel
theorem dX9_fromOf_12 : decode cX9_fromOf 12 = .ok (.iconst 1, 1) := by decide +kernel
theorem dX9_fromOf_13 : decode cX9_fromOf 13 = .ok (.if_icmp .ne 7, 3) := by decide +kernel
theorem dX9_fromOf_16 : decode cX9_fromOf 16 = .ok (.iconst 2, 1) := by decide +kernel
theorem dX9_fromOf_17 : decode cX9_fromOf 17 = .ok (.goto 4, 3) := by decide +kernel
theorem dX9_fromOf_20 : decode cX9_fromOf 20 = .ok (.iconst 1, 1) := by decide +kernel
theorem dX9_fromOf_21 : decode cX9_fromOf 21 = .ok (.iadd, 1) := by decide +kernel
theorem dX9_fromOf_22 : decode cX9_fromOf 22 = .ok (.iaload, 1) := by decide +kernel
theorem dX9_fromOf_23 : decode cX9_fromOf 23 = .ok (.ireturn, 1) := by decide +kernel
theorem dX9_toOf_0 : decode cX9_toOf 0 = .ok (.aload_n 0, 1) := by decide +kernel
theorem dX9_toOf_1 : decode cX9_toOf 1 = .ok (.getfield 16, 3) := by decide +kernel
theorem dX9_toOf_4 : decode cX9_toOf 4 = .ok (.iconst 4, 1) := by decide +kernel
theorem dX9_toOf_5 : decode cX9_toOf 5 = .ok (.iload_n 1, 1) := by decide +kernel
theorem dX9_toOf_6 : decode cX9_toOf 6 = .ok (.imul, 1) := by decide +kernel
theorem dX9_toOf_7 : decode cX9_toOf 7 = .ok (.iload_n 2, 1) := by decide +kernel
theorem dX9_toOf_8 : decode cX9_toOf 8 = .ok (.iload_n 1, 1) := by decide +kernel
theorem dX9_toOf_9 : decode cX9_toOf 9 = .ok (.ishr, 1) := by decide +kernel
theorem dX9_toOf_10 : decode cX9_toOf 10 = .ok (.iconst 1, 1) := by decide +kernel
theorem dX9_toOf_11 : decode cX9_toOf 11 = .ok (.iand, 1) := by decide +kernel
theorem dX9_toOf_12 : decode cX9_toOf 12 = .ok (.iconst 1, 1) := by decide +kernel
theorem dX9_toOf_13 : decode cX9_toOf 13 = .ok (.if_icmp .ne 7, 3) := by decide +kernel
theorem dX9_toOf_16 : decode cX9_toOf 16 = .ok (.iconst 1, 1) := by decide +kernel
theorem dX9_toOf_17 : decode cX9_toOf 17 = .ok (.goto 4, 3) := by decide +kernel
theorem dX9_toOf_20 : decode cX9_toOf 20 = .ok (.iconst 2, 1) := by decide +kernel
theorem dX9_toOf_21 : decode cX9_toOf 21 = .ok (.iadd, 1) := by decide +kernel
theorem dX9_toOf_22 : decode cX9_toOf 22 = .ok (.iaload, 1) := by decide +kernel
theorem dX9_toOf_23 : decode cX9_toOf 23 = .ok (.ireturn, 1) := by decide +kernel
theorem dX9_mayTake_0 : decode cX9_mayTake 0 = .ok (.aload_n 0, 1) := by decide +kernel
theorem dX9_mayTake_1 : decode cX9_mayTake 1 = .ok (.getfield 16, 3) := by decide +kernel
theorem dX9_mayTake_4 : decode cX9_mayTake 4 = .ok (.iconst 4, 1) := by decide +kernel
theorem dX9_mayTake_5 : decode cX9_mayTake 5 = .ok (.iload_n 1, 1) := by decide +kernel
theorem dX9_mayTake_6 : decode cX9_mayTake 6 = .ok (.imul, 1) := by decide +kernel
theorem dX9_mayTake_7 : decode cX9_mayTake 7 = .ok (.iaload, 1) := by decide +kernel
theorem dX9_mayTake_8 : decode cX9_mayTake 8 = .ok (.istore_n 3, 1) := by decide +kernel
theorem dX9_mayTake_9 : decode cX9_mayTake 9 = .ok (.iload_n 3, 1) := by decide +kernel
theorem dX9_mayTake_10 : decode cX9_mayTake 10 = .ok (.iconst 3, 1) := by decide +kernel
theorem dX9_mayTake_11 : decode cX9_mayTake 11 = .ok (.if_icmp .eq 32, 3) := by decide +kernel
theorem dX9_mayTake_14 : decode cX9_mayTake 14 = .ok (.aload_n 0, 1) := by decide +kernel
theorem dX9_mayTake_15 : decode cX9_mayTake 15 = .ok (.getfield 119, 3) := by decide +kernel
theorem dX9_mayTake_18 : decode cX9_mayTake 18 = .ok (.iload_n 2, 1) := by decide +kernel
theorem dX9_mayTake_19 : decode cX9_mayTake 19 = .ok (.ishr, 1) := by decide +kernel
theorem dX9_mayTake_20 : decode cX9_mayTake 20 = .ok (.iconst 1, 1) := by decide +kernel
theorem dX9_mayTake_21 : decode cX9_mayTake 21 = .ok (.iand, 1) := by decide +kernel
theorem dX9_mayTake_22 : decode cX9_mayTake 22 = .ok (.ifCond .ne 21, 3) := by decide +kernel
theorem dX9_mayTake_25 : decode cX9_mayTake 25 = .ok (.aload_n 0, 1) := by decide +kernel
theorem dX9_mayTake_26 : decode cX9_mayTake 26 = .ok (.getfield 31, 3) := by decide +kernel
theorem dX9_mayTake_29 : decode cX9_mayTake 29 = .ok (.iload_n 2, 1) := by decide +kernel
theorem dX9_mayTake_30 : decode cX9_mayTake 30 = .ok (.iaload, 1) := by decide +kernel
theorem dX9_mayTake_31 : decode cX9_mayTake 31 = .ok (.ifCond .eq 8, 3) := by decide +kernel
theorem dX9_mayTake_34 : decode cX9_mayTake 34 = .ok (.iload_n 3, 1) := by decide +kernel
theorem dX9_mayTake_35 : decode cX9_mayTake 35 = .ok (.iconst 4, 1) := by decide +kernel
theorem dX9_mayTake_36 : decode cX9_mayTake 36 = .ok (.if_icmp .ne 7, 3) := by decide +kernel
theorem dX9_mayTake_39 : decode cX9_mayTake 39 = .ok (.iconst 1, 1) := by decide +kernel
theorem dX9_mayTake_40 : decode cX9_mayTake 40 = .ok (.goto 4, 3) := by decide +kernel
theorem dX9_mayTake_43 : decode cX9_mayTake 43 = .ok (.iconst 0, 1) := by decide +kernel
theorem dX9_mayTake_44 : decode cX9_mayTake 44 = .ok (.ireturn, 1) := by decide +kernel
theorem dX9_pick_0 : decode cX9_pick 0 = .ok (.iconst (-1), 1) := by decide +kernel
theorem dX9_pick_1 : decode cX9_pick 1 = .ok (.istore_n 3, 1) := by decide +kernel
theorem dX9_pick_2 : decode cX9_pick 2 = .ok (.iconst 0, 1) := by decide +kernel
theorem dX9_pick_3 : decode cX9_pick 3 = .ok (.istore 4, 2) := by decide +kernel
theorem dX9_pick_5 : decode cX9_pick 5 = .ok (.iload 4, 2) := by decide +kernel
theorem dX9_pick_7 : decode cX9_pick 7 = .ok (.aload_n 0, 1) := by decide +kernel
theorem dX9_pick_8 : decode cX9_pick 8 = .ok (.getfield 113, 3) := by decide +kernel
theorem dX9_pick_11 : decode cX9_pick 11 = .ok (.if_icmp .ge 88, 3) := by decide +kernel
theorem dX9_pick_14 : decode cX9_pick 14 = .ok (.aload_n 0, 1) := by decide +kernel
theorem dX9_pick_15 : decode cX9_pick 15 = .ok (.getfield 25, 3) := by decide +kernel
theorem dX9_pick_18 : decode cX9_pick 18 = .ok (.iconst 4, 1) := by decide +kernel
theorem dX9_pick_19 : decode cX9_pick 19 = .ok (.iload 4, 2) := by decide +kernel
theorem dX9_pick_21 : decode cX9_pick 21 = .ok (.imul, 1) := by decide +kernel
theorem dX9_pick_22 : decode cX9_pick 22 = .ok (.iaload, 1) := by decide +kernel
theorem dX9_pick_23 : decode cX9_pick 23 = .ok (.istore 5, 2) := by decide +kernel
theorem dX9_pick_25 : decode cX9_pick 25 = .ok (.iload_n 3, 1) := by decide +kernel
theorem dX9_pick_26 : decode cX9_pick 26 = .ok (.iconst (-1), 1) := by decide +kernel
theorem dX9_pick_27 : decode cX9_pick 27 = .ok (.if_icmp .eq 36, 3) := by decide +kernel
theorem dX9_pick_30 : decode cX9_pick 30 = .ok (.iload_n 2, 1) := by decide +kernel
theorem dX9_pick_31 : decode cX9_pick 31 = .ok (.ifCond .eq 19, 3) := by decide +kernel
theorem dX9_pick_34 : decode cX9_pick 34 = .ok (.iload 5, 2) := by decide +kernel
theorem dX9_pick_36 : decode cX9_pick 36 = .ok (.aload_n 0, 1) := by decide +kernel
theorem dX9_pick_37 : decode cX9_pick 37 = .ok (.getfield 25, 3) := by decide +kernel
theorem dX9_pick_40 : decode cX9_pick 40 = .ok (.iconst 4, 1) := by decide +kernel
theorem dX9_pick_41 : decode cX9_pick 41 = .ok (.iload_n 3, 1) := by decide +kernel
theorem dX9_pick_42 : decode cX9_pick 42 = .ok (.imul, 1) := by decide +kernel
theorem dX9_pick_43 : decode cX9_pick 43 = .ok (.iaload, 1) := by decide +kernel
theorem dX9_pick_44 : decode cX9_pick 44 = .ok (.if_icmp .ge 23, 3) := by decide +kernel
theorem dX9_pick_47 : decode cX9_pick 47 = .ok (.goto 16, 3) := by decide +kernel
theorem dX9_pick_50 : decode cX9_pick 50 = .ok (.iload 5, 2) := by decide +kernel
theorem dX9_pick_52 : decode cX9_pick 52 = .ok (.aload_n 0, 1) := by decide +kernel
theorem dX9_pick_53 : decode cX9_pick 53 = .ok (.getfield 25, 3) := by decide +kernel
theorem dX9_pick_56 : decode cX9_pick 56 = .ok (.iconst 4, 1) := by decide +kernel
theorem dX9_pick_57 : decode cX9_pick 57 = .ok (.iload_n 3, 1) := by decide +kernel
theorem dX9_pick_58 : decode cX9_pick 58 = .ok (.imul, 1) := by decide +kernel
theorem dX9_pick_59 : decode cX9_pick 59 = .ok (.iaload, 1) := by decide +kernel
theorem dX9_pick_60 : decode cX9_pick 60 = .ok (.if_icmp .le 7, 3) := by decide +kernel
theorem dX9_pick_63 : decode cX9_pick 63 = .ok (.iconst 1, 1) := by decide +kernel
theorem dX9_pick_64 : decode cX9_pick 64 = .ok (.goto 4, 3) := by decide +kernel
theorem dX9_pick_67 : decode cX9_pick 67 = .ok (.iconst 0, 1) := by decide +kernel
theorem dX9_pick_68 : decode cX9_pick 68 = .ok (.istore 6, 2) := by decide +kernel
theorem dX9_pick_70 : decode cX9_pick 70 = .ok (.aload_n 0, 1) := by decide +kernel
theorem dX9_pick_71 : decode cX9_pick 71 = .ok (.getfield 28, 3) := by decide +kernel
theorem dX9_pick_74 : decode cX9_pick 74 = .ok (.iload 4, 2) := by decide +kernel
theorem dX9_pick_76 : decode cX9_pick 76 = .ok (.iaload, 1) := by decide +kernel
theorem dX9_pick_77 : decode cX9_pick 77 = .ok (.iload_n 1, 1) := by decide +kernel
theorem dX9_pick_78 : decode cX9_pick 78 = .ok (.if_icmp .ne 13, 3) := by decide +kernel
theorem dX9_pick_81 : decode cX9_pick 81 = .ok (.iload 6, 2) := by decide +kernel
theorem dX9_pick_83 : decode cX9_pick 83 = .ok (.ifCond .eq 8, 3) := by decide +kernel
theorem dX9_pick_86 : decode cX9_pick 86 = .ok (.iload 4, 2) := by decide +kernel
theorem dX9_pick_88 : decode cX9_pick 88 = .ok (.goto 4, 3) := by decide +kernel
theorem dX9_pick_91 : decode cX9_pick 91 = .ok (.iload_n 3, 1) := by decide +kernel
theorem dX9_pick_92 : decode cX9_pick 92 = .ok (.istore_n 3, 1) := by decide +kernel
theorem dX9_pick_93 : decode cX9_pick 93 = .ok (.iinc 4 1, 3) := by decide +kernel
theorem dX9_pick_96 : decode cX9_pick 96 = .ok (.goto (-91), 3) := by decide +kernel
theorem dX9_pick_99 : decode cX9_pick 99 = .ok (.iload_n 3, 1) := by decide +kernel
theorem dX9_pick_100 : decode cX9_pick 100 = .ok (.ireturn, 1) := by decide +kernel
theorem dX9_visit_0 : decode cX9_visit 0 = .ok (.aload_n 0, 1) := by decide +kernel
theorem dX9_visit_1 : decode cX9_visit 1 = .ok (.iload_n 1, 1) := by decide +kernel
theorem dX9_visit_2 : decode cX9_visit 2 = .ok (.iload_n 2, 1) := by decide +kernel
theorem dX9_visit_3 : decode cX9_visit 3 = .ok (.invokevirtual 130, 3) := by decide +kernel
theorem dX9_visit_6 : decode cX9_visit 6 = .ok (.istore_n 3, 1) := by decide +kernel
theorem dX9_visit_7 : decode cX9_visit 7 = .ok (.iconst 0, 1) := by decide +kernel
theorem dX9_visit_8 : decode cX9_visit 8 = .ok (.istore 4, 2) := by decide +kernel
theorem dX9_visit_10 : decode cX9_visit 10 = .ok (.aload_n 0, 1) := by decide +kernel
theorem dX9_visit_11 : decode cX9_visit 11 = .ok (.iload_n 1, 1) := by decide +kernel
theorem dX9_visit_12 : decode cX9_visit 12 = .ok (.iload_n 3, 1) := by decide +kernel
theorem dX9_visit_13 : decode cX9_visit 13 = .ok (.invokevirtual 133, 3) := by decide +kernel
theorem dX9_visit_16 : decode cX9_visit 16 = .ok (.ifCond .eq 100, 3) := by decide +kernel
theorem dX9_visit_19 : decode cX9_visit 19 = .ok (.aload_n 0, 1) := by decide +kernel
theorem dX9_visit_20 : decode cX9_visit 20 = .ok (.getfield 16, 3) := by decide +kernel
theorem dX9_visit_23 : decode cX9_visit 23 = .ok (.iconst 4, 1) := by decide +kernel
theorem dX9_visit_24 : decode cX9_visit 24 = .ok (.iload_n 1, 1) := by decide +kernel
theorem dX9_visit_25 : decode cX9_visit 25 = .ok (.imul, 1) := by decide +kernel
theorem dX9_visit_26 : decode cX9_visit 26 = .ok (.iaload, 1) := by decide +kernel
theorem dX9_visit_27 : decode cX9_visit 27 = .ok (.istore 5, 2) := by decide +kernel
theorem dX9_visit_29 : decode cX9_visit 29 = .ok (.iload 5, 2) := by decide +kernel
theorem dX9_visit_31 : decode cX9_visit 31 = .ok (.iconst 1, 1) := by decide +kernel
theorem dX9_visit_32 : decode cX9_visit 32 = .ok (.if_icmp .eq 9, 3) := by decide +kernel
theorem dX9_visit_35 : decode cX9_visit 35 = .ok (.iload 5, 2) := by decide +kernel
theorem dX9_visit_37 : decode cX9_visit 37 = .ok (.iconst 4, 1) := by decide +kernel
theorem dX9_visit_38 : decode cX9_visit 38 = .ok (.if_icmp .ne 7, 3) := by decide +kernel
theorem dX9_visit_41 : decode cX9_visit 41 = .ok (.iconst 2, 1) := by decide +kernel
theorem dX9_visit_42 : decode cX9_visit 42 = .ok (.goto 4, 3) := by decide +kernel
theorem dX9_visit_45 : decode cX9_visit 45 = .ok (.iconst 1, 1) := by decide +kernel
theorem dX9_visit_46 : decode cX9_visit 46 = .ok (.istore 6, 2) := by decide +kernel
theorem dX9_visit_48 : decode cX9_visit 48 = .ok (.aload_n 0, 1) := by decide +kernel
theorem dX9_visit_49 : decode cX9_visit 49 = .ok (.iload_n 3, 1) := by decide +kernel
theorem dX9_visit_50 : decode cX9_visit 50 = .ok (.iload 5, 2) := by decide +kernel
theorem dX9_visit_52 : decode cX9_visit 52 = .ok (.iconst 2, 1) := by decide +kernel
theorem dX9_visit_53 : decode cX9_visit 53 = .ok (.if_icmp .ne 7, 3) := by decide +kernel
theorem dX9_visit_56 : decode cX9_visit 56 = .ok (.iconst 1, 1) := by decide +kernel
theorem dX9_visit_57 : decode cX9_visit 57 = .ok (.goto 4, 3) := by decide +kernel
theorem dX9_visit_60 : decode cX9_visit 60 = .ok (.iconst 0, 1) := by decide +kernel
theorem dX9_visit_61 : decode cX9_visit 61 = .ok (.invokevirtual 137, 3) := by decide +kernel
theorem dX9_visit_64 : decode cX9_visit 64 = .ok (.istore 7, 2) := by decide +kernel
theorem dX9_visit_66 : decode cX9_visit 66 = .ok (.iload 7, 2) := by decide +kernel
theorem dX9_visit_68 : decode cX9_visit 68 = .ok (.iconst (-1), 1) := by decide +kernel
theorem dX9_visit_69 : decode cX9_visit 69 = .ok (.if_icmp .eq 47, 3) := by decide +kernel
theorem dX9_visit_72 : decode cX9_visit 72 = .ok (.iload 4, 2) := by decide +kernel
theorem dX9_visit_74 : decode cX9_visit 74 = .ok (.iload 6, 2) := by decide +kernel
theorem dX9_visit_76 : decode cX9_visit 76 = .ok (.if_icmp .ge 40, 3) := by decide +kernel
theorem dX9_visit_79 : decode cX9_visit 79 = .ok (.aload_n 0, 1) := by decide +kernel
theorem dX9_visit_80 : decode cX9_visit 80 = .ok (.getfield 28, 3) := by decide +kernel
theorem dX9_visit_83 : decode cX9_visit 83 = .ok (.iload 7, 2) := by decide +kernel
theorem dX9_visit_85 : decode cX9_visit 85 = .ok (.aload_n 0, 1) := by decide +kernel
theorem dX9_visit_86 : decode cX9_visit 86 = .ok (.iload_n 1, 1) := by decide +kernel
theorem dX9_visit_87 : decode cX9_visit 87 = .ok (.iload_n 2, 1) := by decide +kernel
theorem dX9_visit_88 : decode cX9_visit 88 = .ok (.invokevirtual 141, 3) := by decide +kernel
theorem dX9_visit_91 : decode cX9_visit 91 = .ok (.iastore, 1) := by decide +kernel
theorem dX9_visit_92 : decode cX9_visit 92 = .ok (.iinc 4 1, 3) := by decide +kernel
theorem dX9_visit_95 : decode cX9_visit 95 = .ok (.aload_n 0, 1) := by decide +kernel
theorem dX9_visit_96 : decode cX9_visit 96 = .ok (.iload_n 3, 1) := by decide +kernel
theorem dX9_visit_97 : decode cX9_visit 97 = .ok (.iload 5, 2) := by decide +kernel
theorem dX9_visit_99 : decode cX9_visit 99 = .ok (.iconst 2, 1) := by decide +kernel
theorem dX9_visit_100 : decode cX9_visit 100 = .ok (.if_icmp .ne 7, 3) := by decide +kernel
theorem dX9_visit_103 : decode cX9_visit 103 = .ok (.iconst 1, 1) := by decide +kernel
theorem dX9_visit_104 : decode cX9_visit 104 = .ok (.goto 4, 3) := by decide +kernel
theorem dX9_visit_107 : decode cX9_visit 107 = .ok (.iconst 0, 1) := by decide +kernel
theorem dX9_visit_108 : decode cX9_visit 108 = .ok (.invokevirtual 137, 3) := by decide +kernel
theorem dX9_visit_111 : decode cX9_visit 111 = .ok (.istore 7, 2) := by decide +kernel
theorem dX9_visit_113 : decode cX9_visit 113 = .ok (.goto (-47), 3) := by decide +kernel
theorem dX9_visit_116 : decode cX9_visit 116 = .ok (.iload 4, 2) := by decide +kernel
theorem dX9_visit_118 : decode cX9_visit 118 = .ok (.ireturn, 1) := by decide +kernel
theorem dX9_pass_0 : decode cX9_pass 0 = .ok (.iconst 0, 1) := by decide +kernel
theorem dX9_pass_1 : decode cX9_pass 1 = .ok (.istore_n 3, 1) := by decide +kernel
theorem dX9_pass_2 : decode cX9_pass 2 = .ok (.iconst 0, 1) := by decide +kernel
theorem dX9_pass_3 : decode cX9_pass 3 = .ok (.istore 4, 2) := by decide +kernel
theorem dX9_pass_5 : decode cX9_pass 5 = .ok (.iload 4, 2) := by decide +kernel
theorem dX9_pass_7 : decode cX9_pass 7 = .ok (.aload_n 0, 1) := by decide +kernel
theorem dX9_pass_8 : decode cX9_pass 8 = .ok (.getfield 91, 3) := by decide +kernel
theorem dX9_pass_11 : decode cX9_pass 11 = .ok (.if_icmp .ge 33, 3) := by decide +kernel
theorem dX9_pass_14 : decode cX9_pass 14 = .ok (.iload_n 1, 1) := by decide +kernel
theorem dX9_pass_15 : decode cX9_pass 15 = .ok (.iload 4, 2) := by decide +kernel
theorem dX9_pass_17 : decode cX9_pass 17 = .ok (.ishr, 1) := by decide +kernel
theorem dX9_pass_18 : decode cX9_pass 18 = .ok (.iconst 1, 1) := by decide +kernel
theorem dX9_pass_19 : decode cX9_pass 19 = .ok (.iand, 1) := by decide +kernel
theorem dX9_pass_20 : decode cX9_pass 20 = .ok (.iconst 1, 1) := by decide +kernel
theorem dX9_pass_21 : decode cX9_pass 21 = .ok (.if_icmp .ne 17, 3) := by decide +kernel
theorem dX9_pass_24 : decode cX9_pass 24 = .ok (.aload_n 0, 1) := by decide +kernel
theorem dX9_pass_25 : decode cX9_pass 25 = .ok (.iload 4, 2) := by decide +kernel
theorem dX9_pass_27 : decode cX9_pass 27 = .ok (.iload_n 2, 1) := by decide +kernel
theorem dX9_pass_28 : decode cX9_pass 28 = .ok (.invokevirtual 144, 3) := by decide +kernel
theorem dX9_pass_31 : decode cX9_pass 31 = .ok (.istore 5, 2) := by decide +kernel
theorem dX9_pass_33 : decode cX9_pass 33 = .ok (.iload_n 3, 1) := by decide +kernel
theorem dX9_pass_34 : decode cX9_pass 34 = .ok (.iload 5, 2) := by decide +kernel
theorem dX9_pass_36 : decode cX9_pass 36 = .ok (.iadd, 1) := by decide +kernel
theorem dX9_pass_37 : decode cX9_pass 37 = .ok (.istore_n 3, 1) := by decide +kernel
theorem dX9_pass_38 : decode cX9_pass 38 = .ok (.iinc 4 1, 3) := by decide +kernel
theorem dX9_pass_41 : decode cX9_pass 41 = .ok (.goto (-36), 3) := by decide +kernel
theorem dX9_pass_44 : decode cX9_pass 44 = .ok (.iconst 0, 1) := by decide +kernel
theorem dX9_pass_45 : decode cX9_pass 45 = .ok (.istore 4, 2) := by decide +kernel
theorem dX9_pass_47 : decode cX9_pass 47 = .ok (.iload 4, 2) := by decide +kernel
theorem dX9_pass_49 : decode cX9_pass 49 = .ok (.bipush 8, 2) := by decide +kernel
theorem dX9_pass_51 : decode cX9_pass 51 = .ok (.if_icmp .ge 34, 3) := by decide +kernel
theorem dX9_pass_54 : decode cX9_pass 54 = .ok (.aload_n 0, 1) := by decide +kernel
theorem dX9_pass_55 : decode cX9_pass 55 = .ok (.getfield 31, 3) := by decide +kernel
theorem dX9_pass_58 : decode cX9_pass 58 = .ok (.iload 4, 2) := by decide +kernel
theorem dX9_pass_60 : decode cX9_pass 60 = .ok (.dup2, 1) := by decide +kernel
theorem dX9_pass_61 : decode cX9_pass 61 = .ok (.iaload, 1) := by decide +kernel
theorem dX9_pass_62 : decode cX9_pass 62 = .ok (.aload_n 0, 1) := by decide +kernel
theorem dX9_pass_63 : decode cX9_pass 63 = .ok (.getfield 31, 3) := by decide +kernel
theorem dX9_pass_66 : decode cX9_pass 66 = .ok (.iload 4, 2) := by decide +kernel
theorem dX9_pass_68 : decode cX9_pass 68 = .ok (.iaload, 1) := by decide +kernel
theorem dX9_pass_69 : decode cX9_pass 69 = .ok (.ifCond .le 7, 3) := by decide +kernel
theorem dX9_pass_72 : decode cX9_pass 72 = .ok (.iconst 1, 1) := by decide +kernel
theorem dX9_pass_73 : decode cX9_pass 73 = .ok (.goto 4, 3) := by decide +kernel
theorem dX9_pass_76 : decode cX9_pass 76 = .ok (.iconst 0, 1) := by decide +kernel
theorem dX9_pass_77 : decode cX9_pass 77 = .ok (.isub, 1) := by decide +kernel
theorem dX9_pass_78 : decode cX9_pass 78 = .ok (.iastore, 1) := by decide +kernel
theorem dX9_pass_79 : decode cX9_pass 79 = .ok (.iinc 4 1, 3) := by decide +kernel
theorem dX9_pass_82 : decode cX9_pass 82 = .ok (.goto (-35), 3) := by decide +kernel
theorem dX9_pass_85 : decode cX9_pass 85 = .ok (.iload_n 3, 1) := by decide +kernel
theorem dX9_pass_86 : decode cX9_pass 86 = .ok (.ireturn, 1) := by decide +kernel
theorem dX9_month_0 : decode cX9_month 0 = .ok (.aload_n 0, 1) := by decide +kernel
theorem dX9_month_1 : decode cX9_month 1 = .ok (.invokevirtual 147, 3) := by decide +kernel
theorem dX9_month_4 : decode cX9_month 4 = .ok (.ifCond .eq 6, 3) := by decide +kernel
theorem dX9_month_7 : decode cX9_month 7 = .ok (.bipush (-103), 2) := by decide +kernel
theorem dX9_month_9 : decode cX9_month 9 = .ok (.ireturn, 1) := by decide +kernel
theorem dX9_month_10 : decode cX9_month 10 = .ok (.aload_n 0, 1) := by decide +kernel
theorem dX9_month_11 : decode cX9_month 11 = .ok (.invokevirtual 151, 3) := by decide +kernel
theorem dX9_month_14 : decode cX9_month 14 = .ok (.aload_n 0, 1) := by decide +kernel
theorem dX9_month_15 : decode cX9_month 15 = .ok (.sipush 255, 3) := by decide +kernel
theorem dX9_month_18 : decode cX9_month 18 = .ok (.aload_n 0, 1) := by decide +kernel
