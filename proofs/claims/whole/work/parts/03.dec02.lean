theorem dX8_about_97 : decode cX8_about 97 = .ok (.iaload, 1) := by decide +kernel
theorem dX8_about_98 : decode cX8_about 98 = .ok (.ireturn, 1) := by decide +kernel
theorem dX8_about_99 : decode cX8_about 99 = .ok (.bipush (-102), 2) := by decide +kernel
theorem dX8_about_101 : decode cX8_about 101 = .ok (.ireturn, 1) := by decide +kernel
theorem dX8_as_0 : decode cX8_as 0 = .ok (.aload_n 0, 1) := by decide +kernel
theorem dX8_as_1 : decode cX8_as 1 = .ok (.iload_n 1, 1) := by decide +kernel
theorem dX8_as_2 : decode cX8_as 2 = .ok (.invokevirtual 133, 3) := by decide +kernel
theorem dX8_as_5 : decode cX8_as 5 = .ok (.ifCond .ne 6, 3) := by decide +kernel
theorem dX8_as_8 : decode cX8_as 8 = .ok (.bipush (-101), 2) := by decide +kernel
theorem dX8_as_10 : decode cX8_as 10 = .ok (.ireturn, 1) := by decide +kernel
theorem dX8_as_11 : decode cX8_as 11 = .ok (.iload_n 2, 1) := by decide +kernel
theorem dX8_as_12 : decode cX8_as 12 = .ok (.ifCond .lt 8, 3) := by decide +kernel
theorem dX8_as_15 : decode cX8_as 15 = .ok (.iload_n 2, 1) := by decide +kernel
theorem dX8_as_16 : decode cX8_as 16 = .ok (.iconst 4, 1) := by decide +kernel
theorem dX8_as_17 : decode cX8_as 17 = .ok (.if_icmp .le 6, 3) := by decide +kernel
theorem dX8_as_20 : decode cX8_as 20 = .ok (.bipush (-102), 2) := by decide +kernel
theorem dX8_as_22 : decode cX8_as 22 = .ok (.ireturn, 1) := by decide +kernel
theorem dX8_as_23 : decode cX8_as 23 = .ok (.aload_n 0, 1) := by decide +kernel
theorem dX8_as_24 : decode cX8_as 24 = .ok (.getfield 25, 3) := by decide +kernel
theorem dX8_as_27 : decode cX8_as 27 = .ok (.iload_n 1, 1) := by decide +kernel
theorem dX8_as_28 : decode cX8_as 28 = .ok (.aaload, 1) := by decide +kernel
theorem dX8_as_29 : decode cX8_as 29 = .ok (.iload_n 2, 1) := by decide +kernel
theorem dX8_as_30 : decode cX8_as 30 = .ok (.invokestatic 153, 3) := by decide +kernel
theorem dX8_as_33 : decode cX8_as 33 = .ok (.ifCond .eq 7, 3) := by decide +kernel
theorem dX8_as_36 : decode cX8_as 36 = .ok (.iload_n 1, 1) := by decide +kernel
theorem dX8_as_37 : decode cX8_as 37 = .ok (.goto 4, 3) := by decide +kernel
theorem dX8_as_40 : decode cX8_as 40 = .ok (.iconst (-1), 1) := by decide +kernel
theorem dX8_as_41 : decode cX8_as 41 = .ok (.ireturn, 1) := by decide +kernel
theorem dX8_paid_0 : decode cX8_paid 0 = .ok (.aload_n 0, 1) := by decide +kernel
theorem dX8_paid_1 : decode cX8_paid 1 = .ok (.iload_n 1, 1) := by decide +kernel
theorem dX8_paid_2 : decode cX8_paid 2 = .ok (.invokevirtual 133, 3) := by decide +kernel
theorem dX8_paid_5 : decode cX8_paid 5 = .ok (.ifCond .ne 6, 3) := by decide +kernel
theorem dX8_paid_8 : decode cX8_paid 8 = .ok (.bipush (-101), 2) := by decide +kernel
theorem dX8_paid_10 : decode cX8_paid 10 = .ok (.ireturn, 1) := by decide +kernel
theorem dX8_paid_11 : decode cX8_paid 11 = .ok (.aload_n 0, 1) := by decide +kernel
theorem dX8_paid_12 : decode cX8_paid 12 = .ok (.getfield 39, 3) := by decide +kernel
theorem dX8_paid_15 : decode cX8_paid 15 = .ok (.getfield 126, 3) := by decide +kernel
theorem dX8_paid_18 : decode cX8_paid 18 = .ok (.iload_n 1, 1) := by decide +kernel
theorem dX8_paid_19 : decode cX8_paid 19 = .ok (.baload, 1) := by decide +kernel
theorem dX8_paid_20 : decode cX8_paid 20 = .ok (.invokestatic 149, 3) := by decide +kernel
theorem dX8_paid_23 : decode cX8_paid 23 = .ok (.istore_n 3, 1) := by decide +kernel
theorem dX8_paid_24 : decode cX8_paid 24 = .ok (.aload_n 0, 1) := by decide +kernel
theorem dX8_paid_25 : decode cX8_paid 25 = .ok (.getfield 39, 3) := by decide +kernel
theorem dX8_paid_28 : decode cX8_paid 28 = .ok (.getfield 126, 3) := by decide +kernel
theorem dX8_paid_31 : decode cX8_paid 31 = .ok (.iload_n 1, 1) := by decide +kernel
theorem dX8_paid_32 : decode cX8_paid 32 = .ok (.iload_n 2, 1) := by decide +kernel
theorem dX8_paid_33 : decode cX8_paid 33 = .ok (.bastore, 1) := by decide +kernel
theorem dX8_paid_34 : decode cX8_paid 34 = .ok (.iload_n 3, 1) := by decide +kernel
theorem dX8_paid_35 : decode cX8_paid 35 = .ok (.ireturn, 1) := by decide +kernel
theorem dX8_tenths_0 : decode cX8_tenths 0 = .ok (.aload_n 0, 1) := by decide +kernel
theorem dX8_tenths_1 : decode cX8_tenths 1 = .ok (.iload_n 1, 1) := by decide +kernel
theorem dX8_tenths_2 : decode cX8_tenths 2 = .ok (.invokevirtual 133, 3) := by decide +kernel
theorem dX8_tenths_5 : decode cX8_tenths 5 = .ok (.ifCond .ne 6, 3) := by decide +kernel
theorem dX8_tenths_8 : decode cX8_tenths 8 = .ok (.bipush (-101), 2) := by decide +kernel
theorem dX8_tenths_10 : decode cX8_tenths 10 = .ok (.ireturn, 1) := by decide +kernel
theorem dX8_tenths_11 : decode cX8_tenths 11 = .ok (.iload_n 2, 1) := by decide +kernel
theorem dX8_tenths_12 : decode cX8_tenths 12 = .ok (.ifCond .lt 9, 3) := by decide +kernel
theorem dX8_tenths_15 : decode cX8_tenths 15 = .ok (.iload_n 2, 1) := by decide +kernel
theorem dX8_tenths_16 : decode cX8_tenths 16 = .ok (.bipush 10, 2) := by decide +kernel
theorem dX8_tenths_18 : decode cX8_tenths 18 = .ok (.if_icmp .le 6, 3) := by decide +kernel
theorem dX8_tenths_21 : decode cX8_tenths 21 = .ok (.bipush (-102), 2) := by decide +kernel
theorem dX8_tenths_23 : decode cX8_tenths 23 = .ok (.ireturn, 1) := by decide +kernel
theorem dX8_tenths_24 : decode cX8_tenths 24 = .ok (.aload_n 0, 1) := by decide +kernel
theorem dX8_tenths_25 : decode cX8_tenths 25 = .ok (.getfield 39, 3) := by decide +kernel
theorem dX8_tenths_28 : decode cX8_tenths 28 = .ok (.getfield 130, 3) := by decide +kernel
theorem dX8_tenths_31 : decode cX8_tenths 31 = .ok (.iload_n 1, 1) := by decide +kernel
theorem dX8_tenths_32 : decode cX8_tenths 32 = .ok (.iaload, 1) := by decide +kernel
theorem dX8_tenths_33 : decode cX8_tenths 33 = .ok (.istore_n 3, 1) := by decide +kernel
theorem dX8_tenths_34 : decode cX8_tenths 34 = .ok (.aload_n 0, 1) := by decide +kernel
theorem dX8_tenths_35 : decode cX8_tenths 35 = .ok (.getfield 39, 3) := by decide +kernel
theorem dX8_tenths_38 : decode cX8_tenths 38 = .ok (.getfield 130, 3) := by decide +kernel
theorem dX8_tenths_41 : decode cX8_tenths 41 = .ok (.iload_n 1, 1) := by decide +kernel
theorem dX8_tenths_42 : decode cX8_tenths 42 = .ok (.iload_n 2, 1) := by decide +kernel
theorem dX8_tenths_43 : decode cX8_tenths 43 = .ok (.iastore, 1) := by decide +kernel
theorem dX8_tenths_44 : decode cX8_tenths 44 = .ok (.iload_n 3, 1) := by decide +kernel
theorem dX8_tenths_45 : decode cX8_tenths 45 = .ok (.ireturn, 1) := by decide +kernel
theorem dX8_lock_0 : decode cX8_lock 0 = .ok (.iload_n 1, 1) := by decide +kernel
theorem dX8_lock_1 : decode cX8_lock 1 = .ok (.invokestatic 157, 3) := by decide +kernel
theorem dX8_lock_4 : decode cX8_lock 4 = .ok (.ifCond .ne 6, 3) := by decide +kernel
theorem dX8_lock_7 : decode cX8_lock 7 = .ok (.bipush (-101), 2) := by decide +kernel
theorem dX8_lock_9 : decode cX8_lock 9 = .ok (.ireturn, 1) := by decide +kernel
theorem dX8_lock_10 : decode cX8_lock 10 = .ok (.iload_n 2, 1) := by decide +kernel
theorem dX8_lock_11 : decode cX8_lock 11 = .ok (.ifCond .lt 9, 3) := by decide +kernel
theorem dX8_lock_14 : decode cX8_lock 14 = .ok (.iload_n 2, 1) := by decide +kernel
theorem dX8_lock_15 : decode cX8_lock 15 = .ok (.bipush 9, 2) := by decide +kernel
theorem dX8_lock_17 : decode cX8_lock 17 = .ok (.if_icmp .le 6, 3) := by decide +kernel
theorem dX8_lock_20 : decode cX8_lock 20 = .ok (.bipush (-102), 2) := by decide +kernel
theorem dX8_lock_22 : decode cX8_lock 22 = .ok (.ireturn, 1) := by decide +kernel
theorem dX8_lock_23 : decode cX8_lock 23 = .ok (.aload_n 0, 1) := by decide +kernel
theorem dX8_lock_24 : decode cX8_lock 24 = .ok (.getfield 39, 3) := by decide +kernel
theorem dX8_lock_27 : decode cX8_lock 27 = .ok (.getfield 160, 3) := by decide +kernel
theorem dX8_lock_30 : decode cX8_lock 30 = .ok (.iload_n 1, 1) := by decide +kernel
theorem dX8_lock_31 : decode cX8_lock 31 = .ok (.iaload, 1) := by decide +kernel
theorem dX8_lock_32 : decode cX8_lock 32 = .ok (.istore_n 3, 1) := by decide +kernel
theorem dX8_lock_33 : decode cX8_lock 33 = .ok (.aload_n 0, 1) := by decide +kernel
theorem dX8_lock_34 : decode cX8_lock 34 = .ok (.getfield 39, 3) := by decide +kernel
theorem dX8_lock_37 : decode cX8_lock 37 = .ok (.getfield 160, 3) := by decide +kernel
theorem dX8_lock_40 : decode cX8_lock 40 = .ok (.iload_n 1, 1) := by decide +kernel
theorem dX8_lock_41 : decode cX8_lock 41 = .ok (.iload_n 2, 1) := by decide +kernel
theorem dX8_lock_42 : decode cX8_lock 42 = .ok (.iastore, 1) := by decide +kernel
theorem dX8_lock_43 : decode cX8_lock 43 = .ok (.iload_n 3, 1) := by decide +kernel
theorem dX8_lock_44 : decode cX8_lock 44 = .ok (.ireturn, 1) := by decide +kernel
theorem dX8_dog_0 : decode cX8_dog 0 = .ok (.iload_n 1, 1) := by decide +kernel
theorem dX8_dog_1 : decode cX8_dog 1 = .ok (.invokestatic 157, 3) := by decide +kernel
theorem dX8_dog_4 : decode cX8_dog 4 = .ok (.ifCond .ne 6, 3) := by decide +kernel
theorem dX8_dog_7 : decode cX8_dog 7 = .ok (.bipush (-101), 2) := by decide +kernel
theorem dX8_dog_9 : decode cX8_dog 9 = .ok (.ireturn, 1) := by decide +kernel
theorem dX8_dog_10 : decode cX8_dog 10 = .ok (.aload_n 0, 1) := by decide +kernel
theorem dX8_dog_11 : decode cX8_dog 11 = .ok (.getfield 39, 3) := by decide +kernel
theorem dX8_dog_14 : decode cX8_dog 14 = .ok (.getfield 163, 3) := by decide +kernel
theorem dX8_dog_17 : decode cX8_dog 17 = .ok (.iload_n 1, 1) := by decide +kernel
theorem dX8_dog_18 : decode cX8_dog 18 = .ok (.baload, 1) := by decide +kernel
theorem dX8_dog_19 : decode cX8_dog 19 = .ok (.invokestatic 149, 3) := by decide +kernel
theorem dX8_dog_22 : decode cX8_dog 22 = .ok (.istore_n 3, 1) := by decide +kernel
theorem dX8_dog_23 : decode cX8_dog 23 = .ok (.aload_n 0, 1) := by decide +kernel
theorem dX8_dog_24 : decode cX8_dog 24 = .ok (.getfield 39, 3) := by decide +kernel
theorem dX8_dog_27 : decode cX8_dog 27 = .ok (.getfield 163, 3) := by decide +kernel
theorem dX8_dog_30 : decode cX8_dog 30 = .ok (.iload_n 1, 1) := by decide +kernel
theorem dX8_dog_31 : decode cX8_dog 31 = .ok (.iload_n 2, 1) := by decide +kernel
theorem dX8_dog_32 : decode cX8_dog 32 = .ok (.bastore, 1) := by decide +kernel
theorem dX8_dog_33 : decode cX8_dog 33 = .ok (.iload_n 3, 1) := by decide +kernel
theorem dX8_dog_34 : decode cX8_dog 34 = .ok (.ireturn, 1) := by decide +kernel
theorem dX8_spoon_0 : decode cX8_spoon 0 = .ok (.iload_n 1, 1) := by decide +kernel
theorem dX8_spoon_1 : decode cX8_spoon 1 = .ok (.invokestatic 157, 3) := by decide +kernel
theorem dX8_spoon_4 : decode cX8_spoon 4 = .ok (.ifCond .ne 6, 3) := by decide +kernel
theorem dX8_spoon_7 : decode cX8_spoon 7 = .ok (.bipush (-101), 2) := by decide +kernel
theorem dX8_spoon_9 : decode cX8_spoon 9 = .ok (.ireturn, 1) := by decide +kernel
theorem dX8_spoon_10 : decode cX8_spoon 10 = .ok (.iload_n 2, 1) := by decide +kernel
theorem dX8_spoon_11 : decode cX8_spoon 11 = .ok (.iconst 1, 1) := by decide +kernel
theorem dX8_spoon_12 : decode cX8_spoon 12 = .ok (.if_icmp .lt 9, 3) := by decide +kernel
theorem dX8_spoon_15 : decode cX8_spoon 15 = .ok (.iload_n 2, 1) := by decide +kernel
theorem dX8_spoon_16 : decode cX8_spoon 16 = .ok (.bipush 99, 2) := by decide +kernel
theorem dX8_spoon_18 : decode cX8_spoon 18 = .ok (.if_icmp .le 6, 3) := by decide +kernel
theorem dX8_spoon_21 : decode cX8_spoon 21 = .ok (.bipush (-102), 2) := by decide +kernel
theorem dX8_spoon_23 : decode cX8_spoon 23 = .ok (.ireturn, 1) := by decide +kernel
theorem dX8_spoon_24 : decode cX8_spoon 24 = .ok (.aload_n 0, 1) := by decide +kernel
theorem dX8_spoon_25 : decode cX8_spoon 25 = .ok (.getfield 66, 3) := by decide +kernel
theorem dX8_spoon_28 : decode cX8_spoon 28 = .ok (.bipush 8, 2) := by decide +kernel
theorem dX8_spoon_30 : decode cX8_spoon 30 = .ok (.if_icmp .lt 6, 3) := by decide +kernel
theorem dX8_spoon_33 : decode cX8_spoon 33 = .ok (.bipush (-104), 2) := by decide +kernel
theorem dX8_spoon_35 : decode cX8_spoon 35 = .ok (.ireturn, 1) := by decide +kernel
theorem dX8_spoon_36 : decode cX8_spoon 36 = .ok (.aload_n 0, 1) := by decide +kernel
theorem dX8_spoon_37 : decode cX8_spoon 37 = .ok (.getfield 29, 3) := by decide +kernel
theorem dX8_spoon_40 : decode cX8_spoon 40 = .ok (.aload_n 0, 1) := by decide +kernel
theorem dX8_spoon_41 : decode cX8_spoon 41 = .ok (.getfield 66, 3) := by decide +kernel
theorem dX8_spoon_44 : decode cX8_spoon 44 = .ok (.iload_n 2, 1) := by decide +kernel
theorem dX8_spoon_45 : decode cX8_spoon 45 = .ok (.iastore, 1) := by decide +kernel
theorem dX8_spoon_46 : decode cX8_spoon 46 = .ok (.aload_n 0, 1) := by decide +kernel
theorem dX8_spoon_47 : decode cX8_spoon 47 = .ok (.getfield 33, 3) := by decide +kernel
theorem dX8_spoon_50 : decode cX8_spoon 50 = .ok (.aload_n 0, 1) := by decide +kernel
theorem dX8_spoon_51 : decode cX8_spoon 51 = .ok (.getfield 66, 3) := by decide +kernel
theorem dX8_spoon_54 : decode cX8_spoon 54 = .ok (.iload_n 1, 1) := by decide +kernel
theorem dX8_spoon_55 : decode cX8_spoon 55 = .ok (.iastore, 1) := by decide +kernel
theorem dX8_spoon_56 : decode cX8_spoon 56 = .ok (.aload_n 0, 1) := by decide +kernel
theorem dX8_spoon_57 : decode cX8_spoon 57 = .ok (.getfield 39, 3) := by decide +kernel
theorem dX8_spoon_60 : decode cX8_spoon 60 = .ok (.getfield 166, 3) := by decide +kernel
theorem dX8_spoon_63 : decode cX8_spoon 63 = .ok (.aload_n 0, 1) := by decide +kernel
theorem dX8_spoon_64 : decode cX8_spoon 64 = .ok (.getfield 66, 3) := by decide +kernel
theorem dX8_spoon_67 : decode cX8_spoon 67 = .ok (.iload_n 1, 1) := by decide +kernel
theorem dX8_spoon_68 : decode cX8_spoon 68 = .ok (.iastore, 1) := by decide +kernel
theorem dX8_spoon_69 : decode cX8_spoon 69 = .ok (.aload_n 0, 1) := by decide +kernel
theorem dX8_spoon_70 : decode cX8_spoon 70 = .ok (.getfield 39, 3) := by decide +kernel
theorem dX8_spoon_73 : decode cX8_spoon 73 = .ok (.getfield 169, 3) := by decide +kernel
theorem dX8_spoon_76 : decode cX8_spoon 76 = .ok (.aload_n 0, 1) := by decide +kernel
theorem dX8_spoon_77 : decode cX8_spoon 77 = .ok (.getfield 66, 3) := by decide +kernel
theorem dX8_spoon_80 : decode cX8_spoon 80 = .ok (.iconst (-1), 1) := by decide +kernel
theorem dX8_spoon_81 : decode cX8_spoon 81 = .ok (.iastore, 1) := by decide +kernel
theorem dX8_spoon_82 : decode cX8_spoon 82 = .ok (.aload_n 0, 1) := by decide +kernel
theorem dX8_spoon_83 : decode cX8_spoon 83 = .ok (.dup, 1) := by decide +kernel
theorem dX8_spoon_84 : decode cX8_spoon 84 = .ok (.getfield 66, 3) := by decide +kernel
theorem dX8_spoon_87 : decode cX8_spoon 87 = .ok (.iconst 1, 1) := by decide +kernel
theorem dX8_spoon_88 : decode cX8_spoon 88 = .ok (.iadd, 1) := by decide +kernel
theorem dX8_spoon_89 : decode cX8_spoon 89 = .ok (.putfield 66, 3) := by decide +kernel
theorem dX8_spoon_92 : decode cX8_spoon 92 = .ok (.aload_n 0, 1) := by decide +kernel
theorem dX8_spoon_93 : decode cX8_spoon 93 = .ok (.getfield 66, 3) := by decide +kernel
theorem dX8_spoon_96 : decode cX8_spoon 96 = .ok (.iconst 1, 1) := by decide +kernel
theorem dX8_spoon_97 : decode cX8_spoon 97 = .ok (.isub, 1) := by decide +kernel
theorem dX8_spoon_98 : decode cX8_spoon 98 = .ok (.ireturn, 1) := by decide +kernel
theorem dX8_silver_0 : decode cX8_silver 0 = .ok (.aload_n 0, 1) := by decide +kernel
theorem dX8_silver_1 : decode cX8_silver 1 = .ok (.iload_n 1, 1) := by decide +kernel
theorem dX8_silver_2 : decode cX8_silver 2 = .ok (.invokevirtual 172, 3) := by decide +kernel
theorem dX8_silver_5 : decode cX8_silver 5 = .ok (.ifCond .ne 6, 3) := by decide +kernel
theorem dX8_silver_8 : decode cX8_silver 8 = .ok (.bipush (-101), 2) := by decide +kernel
theorem dX8_silver_10 : decode cX8_silver 10 = .ok (.ireturn, 1) := by decide +kernel
theorem dX8_silver_11 : decode cX8_silver 11 = .ok (.iload_n 2, 1) := by decide +kernel
theorem dX8_silver_12 : decode cX8_silver 12 = .ok (.tableswitch 66 0 3 #[32, 39, 46, 56], 32) := by decide +kernel
theorem dX8_silver_44 : decode cX8_silver 44 = .ok (.aload_n 0, 1) := by decide +kernel
theorem dX8_silver_45 : decode cX8_silver 45 = .ok (.getfield 29, 3) := by decide +kernel
theorem dX8_silver_48 : decode cX8_silver 48 = .ok (.iload_n 1, 1) := by decide +kernel
theorem dX8_silver_49 : decode cX8_silver 49 = .ok (.iaload, 1) := by decide +kernel
theorem dX8_silver_50 : decode cX8_silver 50 = .ok (.ireturn, 1) := by decide +kernel
theorem dX8_silver_51 : decode cX8_silver 51 = .ok (.aload_n 0, 1) := by decide +kernel
theorem dX8_silver_52 : decode cX8_silver 52 = .ok (.getfield 33, 3) := by decide +kernel
theorem dX8_silver_55 : decode cX8_silver 55 = .ok (.iload_n 1, 1) := by decide +kernel
theorem dX8_silver_56 : decode cX8_silver 56 = .ok (.iaload, 1) := by decide +kernel
theorem dX8_silver_57 : decode cX8_silver 57 = .ok (.ireturn, 1) := by decide +kernel
theorem dX8_silver_58 : decode cX8_silver 58 = .ok (.aload_n 0, 1) := by decide +kernel
theorem dX8_silver_59 : decode cX8_silver 59 = .ok (.getfield 39, 3) := by decide +kernel
theorem dX8_silver_62 : decode cX8_silver 62 = .ok (.getfield 166, 3) := by decide +kernel
theorem dX8_silver_65 : decode cX8_silver 65 = .ok (.iload_n 1, 1) := by decide +kernel
theorem dX8_silver_66 : decode cX8_silver 66 = .ok (.iaload, 1) := by decide +kernel
theorem dX8_silver_67 : decode cX8_silver 67 = .ok (.ireturn, 1) := by decide +kernel
theorem dX8_silver_68 : decode cX8_silver 68 = .ok (.aload_n 0, 1) := by decide +kernel
theorem dX8_silver_69 : decode cX8_silver 69 = .ok (.getfield 39, 3) := by decide +kernel
theorem dX8_silver_72 : decode cX8_silver 72 = .ok (.getfield 169, 3) := by decide +kernel
theorem dX8_silver_75 : decode cX8_silver 75 = .ok (.iload_n 1, 1) := by decide +kernel
theorem dX8_silver_76 : decode cX8_silver 76 = .ok (.iaload, 1) := by decide +kernel
theorem dX8_silver_77 : decode cX8_silver 77 = .ok (.ireturn, 1) := by decide +kernel
theorem dX8_silver_78 : decode cX8_silver 78 = .ok (.bipush (-102), 2) := by decide +kernel
theorem dX8_silver_80 : decode cX8_silver 80 = .ok (.ireturn, 1) := by decide +kernel
theorem dX8_worth_0 : decode cX8_worth 0 = .ok (.iload_n 1, 1) := by decide +kernel
theorem dX8_worth_1 : decode cX8_worth 1 = .ok (.invokestatic 157, 3) := by decide +kernel
theorem dX8_worth_4 : decode cX8_worth 4 = .ok (.ifCond .ne 6, 3) := by decide +kernel
theorem dX8_worth_7 : decode cX8_worth 7 = .ok (.bipush (-101), 2) := by decide +kernel
theorem dX8_worth_9 : decode cX8_worth 9 = .ok (.ireturn, 1) := by decide +kernel
theorem dX8_worth_10 : decode cX8_worth 10 = .ok (.aload_n 0, 1) := by decide +kernel
theorem dX8_worth_11 : decode cX8_worth 11 = .ok (.aload_n 0, 1) := by decide +kernel
theorem dX8_worth_12 : decode cX8_worth 12 = .ok (.getfield 39, 3) := by decide +kernel
theorem dX8_worth_15 : decode cX8_worth 15 = .ok (.iload_n 1, 1) := by decide +kernel
theorem dX8_worth_16 : decode cX8_worth 16 = .ok (.invokevirtual 175, 3) := by decide +kernel
theorem dX8_worth_19 : decode cX8_worth 19 = .ok (.ireturn, 1) := by decide +kernel
theorem dX8_month_0 : decode cX8_month 0 = .ok (.aload_n 0, 1) := by decide +kernel
theorem dX8_month_1 : decode cX8_month 1 = .ok (.getfield 62, 3) := by decide +kernel
theorem dX8_month_4 : decode cX8_month 4 = .ok (.ifCond .ne 6, 3) := by decide +kernel
theorem dX8_month_7 : decode cX8_month 7 = .ok (.bipush (-103), 2) := by decide +kernel
theorem dX8_month_9 : decode cX8_month 9 = .ok (.ireturn, 1) := by decide +kernel
theorem dX8_month_10 : decode cX8_month 10 = .ok (.iconst 0, 1) := by decide +kernel
theorem dX8_month_11 : decode cX8_month 11 = .ok (.istore_n 1, 1) := by decide +kernel
theorem dX8_month_12 : decode cX8_month 12 = .ok (.iload_n 1, 1) := by decide +kernel
theorem dX8_month_13 : decode cX8_month 13 = .ok (.aload_n 0, 1) := by decide +kernel
theorem dX8_month_14 : decode cX8_month 14 = .ok (.getfield 62, 3) := by decide +kernel
theorem dX8_month_17 : decode cX8_month 17 = .ok (.if_icmp .ge 46, 3) := by decide +kernel
theorem dX8_month_20 : decode cX8_month 20 = .ok (.aload_n 0, 1) := by decide +kernel
theorem dX8_month_21 : decode cX8_month 21 = .ok (.getfield 39, 3) := by decide +kernel
theorem dX8_month_24 : decode cX8_month 24 = .ok (.dup, 1) := by decide +kernel
theorem dX8_month_25 : decode cX8_month 25 = .ok (.getfield 179, 3) := by decide +kernel
theorem dX8_month_28 : decode cX8_month 28 = .ok (.aload_n 0, 1) := by decide +kernel
theorem dX8_month_29 : decode cX8_month 29 = .ok (.getfield 39, 3) := by decide +kernel
theorem dX8_month_32 : decode cX8_month 32 = .ok (.getfield 126, 3) := by decide +kernel
theorem dX8_month_35 : decode cX8_month 35 = .ok (.iload_n 1, 1) := by decide +kernel
theorem dX8_month_36 : decode cX8_month 36 = .ok (.baload, 1) := by decide +kernel
theorem dX8_month_37 : decode cX8_month 37 = .ok (.ifCond .eq 15, 3) := by decide +kernel
theorem dX8_month_40 : decode cX8_month 40 = .ok (.aload_n 0, 1) := by decide +kernel
theorem dX8_month_41 : decode cX8_month 41 = .ok (.getfield 25, 3) := by decide +kernel
theorem dX8_month_44 : decode cX8_month 44 = .ok (.iload_n 1, 1) := by decide +kernel
theorem dX8_month_45 : decode cX8_month 45 = .ok (.aaload, 1) := by decide +kernel
theorem dX8_month_46 : decode cX8_month 46 = .ok (.getfield 146, 3) := by decide +kernel
theorem dX8_month_49 : decode cX8_month 49 = .ok (.goto 4, 3) := by decide +kernel
theorem dX8_month_52 : decode cX8_month 52 = .ok (.iconst 0, 1) := by decide +kernel
theorem dX8_month_53 : decode cX8_month 53 = .ok (.iadd, 1) := by decide +kernel
theorem dX8_month_54 : decode cX8_month 54 = .ok (.putfield 179, 3) := by decide +kernel
theorem dX8_month_57 : decode cX8_month 57 = .ok (.iinc 1 1, 3) := by decide +kernel
theorem dX8_month_60 : decode cX8_month 60 = .ok (.goto (-48), 3) := by decide +kernel
theorem dX8_month_63 : decode cX8_month 63 = .ok (.aload_n 0, 1) := by decide +kernel
theorem dX8_month_64 : decode cX8_month 64 = .ok (.getfield 39, 3) := by decide +kernel
theorem dX8_month_67 : decode cX8_month 67 = .ok (.dup, 1) := by decide +kernel
theorem dX8_month_68 : decode cX8_month 68 = .ok (.getfield 182, 3) := by decide +kernel
theorem dX8_month_71 : decode cX8_month 71 = .ok (.iconst 1, 1) := by decide +kernel
theorem dX8_month_72 : decode cX8_month 72 = .ok (.iadd, 1) := by decide +kernel
theorem dX8_month_73 : decode cX8_month 73 = .ok (.putfield 182, 3) := by decide +kernel
theorem dX8_month_76 : decode cX8_month 76 = .ok (.aload_n 0, 1) := by decide +kernel
theorem dX8_month_77 : decode cX8_month 77 = .ok (.aload_n 0, 1) := by decide +kernel
theorem dX8_month_78 : decode cX8_month 78 = .ok (.getfield 39, 3) := by decide +kernel
theorem dX8_month_81 : decode cX8_month 81 = .ok (.iconst (-1), 1) := by decide +kernel
theorem dX8_month_82 : decode cX8_month 82 = .ok (.invokevirtual 185, 3) := by decide +kernel
theorem dX8_month_85 : decode cX8_month 85 = .ok (.ireturn, 1) := by decide +kernel
theorem dX8_where_0 : decode cX8_where 0 = .ok (.aload_n 0, 1) := by decide +kernel
theorem dX8_where_1 : decode cX8_where 1 = .ok (.iload_n 1, 1) := by decide +kernel
theorem dX8_where_2 : decode cX8_where 2 = .ok (.invokevirtual 172, 3) := by decide +kernel
theorem dX8_where_5 : decode cX8_where 5 = .ok (.ifCond .ne 6, 3) := by decide +kernel
theorem dX8_where_8 : decode cX8_where 8 = .ok (.bipush (-101), 2) := by decide +kernel
theorem dX8_where_10 : decode cX8_where 10 = .ok (.ireturn, 1) := by decide +kernel
theorem dX8_where_11 : decode cX8_where 11 = .ok (.iload_n 2, 1) := by decide +kernel
theorem dX8_where_12 : decode cX8_where 12 = .ok (.ifCond .lt 9, 3) := by decide +kernel
theorem dX8_where_15 : decode cX8_where 15 = .ok (.iload_n 2, 1) := by decide +kernel
theorem dX8_where_16 : decode cX8_where 16 = .ok (.bipush 60, 2) := by decide +kernel
theorem dX8_where_18 : decode cX8_where 18 = .ok (.if_icmp .le 6, 3) := by decide +kernel
theorem dX8_where_21 : decode cX8_where 21 = .ok (.bipush (-102), 2) := by decide +kernel
theorem dX8_where_23 : decode cX8_where 23 = .ok (.ireturn, 1) := by decide +kernel
theorem dX8_where_24 : decode cX8_where 24 = .ok (.aload_n 0, 1) := by decide +kernel
theorem dX8_where_25 : decode cX8_where 25 = .ok (.getfield 62, 3) := by decide +kernel
theorem dX8_where_28 : decode cX8_where 28 = .ok (.ifCond .ne 6, 3) := by decide +kernel
theorem dX8_where_31 : decode cX8_where 31 = .ok (.bipush (-103), 2) := by decide +kernel
theorem dX8_where_33 : decode cX8_where 33 = .ok (.ireturn, 1) := by decide +kernel
theorem dX8_where_34 : decode cX8_where 34 = .ok (.aload_n 0, 1) := by decide +kernel
theorem dX8_where_35 : decode cX8_where 35 = .ok (.getfield 46, 3) := by decide +kernel
theorem dX8_where_38 : decode cX8_where 38 = .ok (.aload_n 0, 1) := by decide +kernel
theorem dX8_where_39 : decode cX8_where 39 = .ok (.getfield 39, 3) := by decide +kernel
theorem dX8_where_42 : decode cX8_where 42 = .ok (.invokevirtual 188, 3) := by decide +kernel
theorem dX8_where_45 : decode cX8_where 45 = .ok (.iconst 0, 1) := by decide +kernel
theorem dX8_where_46 : decode cX8_where 46 = .ok (.istore_n 3, 1) := by decide +kernel
theorem dX8_where_47 : decode cX8_where 47 = .ok (.iload_n 3, 1) := by decide +kernel
theorem dX8_where_48 : decode cX8_where 48 = .ok (.iload_n 2, 1) := by decide +kernel
theorem dX8_where_49 : decode cX8_where 49 = .ok (.if_icmp .ge 19, 3) := by decide +kernel
theorem dX8_where_52 : decode cX8_where 52 = .ok (.aload_n 0, 1) := by decide +kernel
theorem dX8_where_53 : decode cX8_where 53 = .ok (.aload_n 0, 1) := by decide +kernel
theorem dX8_where_54 : decode cX8_where 54 = .ok (.getfield 46, 3) := by decide +kernel
theorem dX8_where_57 : decode cX8_where 57 = .ok (.iconst (-1), 1) := by decide +kernel
theorem dX8_where_58 : decode cX8_where 58 = .ok (.invokevirtual 185, 3) := by decide +kernel
theorem dX8_where_61 : decode cX8_where 61 = .ok (.pop, 1) := by decide +kernel
theorem dX8_where_62 : decode cX8_where 62 = .ok (.iinc 3 1, 3) := by decide +kernel
theorem dX8_where_65 : decode cX8_where 65 = .ok (.goto (-18), 3) := by decide +kernel
theorem dX8_where_68 : decode cX8_where 68 = .ok (.aload_n 0, 1) := by decide +kernel
theorem dX8_where_69 : decode cX8_where 69 = .ok (.getfield 46, 3) := by decide +kernel
theorem dX8_where_72 : decode cX8_where 72 = .ok (.getfield 166, 3) := by decide +kernel
theorem dX8_where_75 : decode cX8_where 75 = .ok (.iload_n 1, 1) := by decide +kernel
theorem dX8_where_76 : decode cX8_where 76 = .ok (.iaload, 1) := by decide +kernel
theorem dX8_where_77 : decode cX8_where 77 = .ok (.ireturn, 1) := by decide +kernel
theorem dX8_chance_0 : decode cX8_chance 0 = .ok (.aload_n 0, 1) := by decide +kernel
theorem dX8_chance_1 : decode cX8_chance 1 = .ok (.iload_n 1, 1) := by decide +kernel
theorem dX8_chance_2 : decode cX8_chance 2 = .ok (.invokevirtual 172, 3) := by decide +kernel
theorem dX8_chance_5 : decode cX8_chance 5 = .ok (.ifCond .eq 10, 3) := by decide +kernel
theorem dX8_chance_8 : decode cX8_chance 8 = .ok (.iload_n 3, 1) := by decide +kernel
theorem dX8_chance_9 : decode cX8_chance 9 = .ok (.invokestatic 157, 3) := by decide +kernel
theorem dX8_chance_12 : decode cX8_chance 12 = .ok (.ifCond .ne 7, 3) := by decide +kernel
theorem dX8_chance_15 : decode cX8_chance 15 = .ok (.ldc2_w 192, 3) := by decide +kernel
theorem dX8_chance_18 : decode cX8_chance 18 = .ok (.lreturn, 1) := by decide +kernel
theorem dX8_chance_19 : decode cX8_chance 19 = .ok (.iload_n 2, 1) := by decide +kernel
theorem dX8_chance_20 : decode cX8_chance 20 = .ok (.iconst 1, 1) := by decide +kernel
theorem dX8_chance_21 : decode cX8_chance 21 = .ok (.if_icmp .lt 19, 3) := by decide +kernel
theorem dX8_chance_24 : decode cX8_chance 24 = .ok (.iload_n 2, 1) := by decide +kernel
theorem dX8_chance_25 : decode cX8_chance 25 = .ok (.iconst 2, 1) := by decide +kernel
theorem dX8_chance_26 : decode cX8_chance 26 = .ok (.if_icmp .gt 14, 3) := by decide +kernel
theorem dX8_chance_29 : decode cX8_chance 29 = .ok (.iload 4, 2) := by decide +kernel
theorem dX8_chance_31 : decode cX8_chance 31 = .ok (.ifCond .lt 9, 3) := by decide +kernel
theorem dX8_chance_34 : decode cX8_chance 34 = .ok (.iload 4, 2) := by decide +kernel
theorem dX8_chance_36 : decode cX8_chance 36 = .ok (.iconst 1, 1) := by decide +kernel
theorem dX8_chance_37 : decode cX8_chance 37 = .ok (.if_icmp .le 7, 3) := by decide +kernel
theorem dX8_chance_40 : decode cX8_chance 40 = .ok (.ldc2_w 194, 3) := by decide +kernel
theorem dX8_chance_43 : decode cX8_chance 43 = .ok (.lreturn, 1) := by decide +kernel
theorem dX8_chance_44 : decode cX8_chance 44 = .ok (.aload_n 0, 1) := by decide +kernel
theorem dX8_chance_45 : decode cX8_chance 45 = .ok (.getfield 62, 3) := by decide +kernel
theorem dX8_chance_48 : decode cX8_chance 48 = .ok (.ifCond .ne 7, 3) := by decide +kernel
theorem dX8_chance_51 : decode cX8_chance 51 = .ok (.ldc2_w 196, 3) := by decide +kernel
theorem dX8_chance_54 : decode cX8_chance 54 = .ok (.lreturn, 1) := by decide +kernel
theorem dX8_chance_55 : decode cX8_chance 55 = .ok (.aload_n 0, 1) := by decide +kernel
theorem dX8_chance_56 : decode cX8_chance 56 = .ok (.iload_n 1, 1) := by decide +kernel
theorem dX8_chance_57 : decode cX8_chance 57 = .ok (.iload_n 2, 1) := by decide +kernel
theorem dX8_chance_58 : decode cX8_chance 58 = .ok (.invokevirtual 198, 3) := by decide +kernel
theorem dX8_chance_61 : decode cX8_chance 61 = .ok (.lstore 5, 2) := by decide +kernel
theorem dX8_chance_63 : decode cX8_chance 63 = .ok (.aload_n 0, 1) := by decide +kernel
theorem dX8_chance_64 : decode cX8_chance 64 = .ok (.getfield 49, 3) := by decide +kernel
theorem dX8_chance_67 : decode cX8_chance 67 = .ok (.iload_n 3, 1) := by decide +kernel
theorem dX8_chance_68 : decode cX8_chance 68 = .ok (.laload, 1) := by decide +kernel
theorem dX8_chance_69 : decode cX8_chance 69 = .ok (.lstore 7, 2) := by decide +kernel
theorem dX8_chance_71 : decode cX8_chance 71 = .ok (.lload 5, 2) := by decide +kernel
theorem dX8_chance_73 : decode cX8_chance 73 = .ok (.lload 7, 2) := by decide +kernel
theorem dX8_chance_75 : decode cX8_chance 75 = .ok (.invokestatic 202, 3) := by decide +kernel
theorem dX8_chance_78 : decode cX8_chance 78 = .ok (.lstore 9, 2) := by decide +kernel
theorem dX8_chance_80 : decode cX8_chance 80 = .ok (.lload 9, 2) := by decide +kernel
theorem dX8_chance_82 : decode cX8_chance 82 = .ok (.lconst 0, 1) := by decide +kernel
theorem dX8_chance_83 : decode cX8_chance 83 = .ok (.lcmp, 1) := by decide +kernel
theorem dX8_chance_84 : decode cX8_chance 84 = .ok (.ifCond .ne 7, 3) := by decide +kernel
theorem dX8_chance_87 : decode cX8_chance 87 = .ok (.ldc2_w 196, 3) := by decide +kernel
theorem dX8_chance_90 : decode cX8_chance 90 = .ok (.lreturn, 1) := by decide +kernel
theorem dX8_chance_91 : decode cX8_chance 91 = .ok (.iload 4, 2) := by decide +kernel
theorem dX8_chance_93 : decode cX8_chance 93 = .ok (.ifCond .ne 8, 3) := by decide +kernel
theorem dX8_chance_96 : decode cX8_chance 96 = .ok (.lload 7, 2) := by decide +kernel
theorem dX8_chance_98 : decode cX8_chance 98 = .ok (.goto 5, 3) := by decide +kernel
theorem dX8_chance_101 : decode cX8_chance 101 = .ok (.lload 5, 2) := by decide +kernel
theorem dX8_chance_103 : decode cX8_chance 103 = .ok (.lload 9, 2) := by decide +kernel
theorem dX8_chance_105 : decode cX8_chance 105 = .ok (.ldiv, 1) := by decide +kernel
theorem dX8_chance_106 : decode cX8_chance 106 = .ok (.lreturn, 1) := by decide +kernel
theorem dX8_whom_0 : decode cX8_whom 0 = .ok (.iload_n 1, 1) := by decide +kernel
theorem dX8_whom_1 : decode cX8_whom 1 = .ok (.invokestatic 157, 3) := by decide +kernel
theorem dX8_whom_4 : decode cX8_whom 4 = .ok (.ifCond .ne 6, 3) := by decide +kernel
theorem dX8_whom_7 : decode cX8_whom 7 = .ok (.ldc 206, 2) := by decide +kernel
theorem dX8_whom_9 : decode cX8_whom 9 = .ok (.ireturn, 1) := by decide +kernel
theorem dX8_whom_10 : decode cX8_whom 10 = .ok (.iload_n 2, 1) := by decide +kernel
theorem dX8_whom_11 : decode cX8_whom 11 = .ok (.ifCond .lt 18, 3) := by decide +kernel
theorem dX8_whom_14 : decode cX8_whom 14 = .ok (.iload_n 2, 1) := by decide +kernel
theorem dX8_whom_15 : decode cX8_whom 15 = .ok (.bipush 12, 2) := by decide +kernel
theorem dX8_whom_17 : decode cX8_whom 17 = .ok (.if_icmp .gt 12, 3) := by decide +kernel
theorem dX8_whom_20 : decode cX8_whom 20 = .ok (.iload_n 3, 1) := by decide +kernel
theorem dX8_whom_21 : decode cX8_whom 21 = .ok (.ifCond .lt 8, 3) := by decide +kernel
theorem dX8_whom_24 : decode cX8_whom 24 = .ok (.iload_n 3, 1) := by decide +kernel
theorem dX8_whom_25 : decode cX8_whom 25 = .ok (.iconst 1, 1) := by decide +kernel
theorem dX8_whom_26 : decode cX8_whom 26 = .ok (.if_icmp .le 6, 3) := by decide +kernel
theorem dX8_whom_29 : decode cX8_whom 29 = .ok (.ldc 207, 2) := by decide +kernel
theorem dX8_whom_31 : decode cX8_whom 31 = .ok (.ireturn, 1) := by decide +kernel
theorem dX8_whom_32 : decode cX8_whom 32 = .ok (.aload_n 0, 1) := by decide +kernel
theorem dX8_whom_33 : decode cX8_whom 33 = .ok (.getfield 62, 3) := by decide +kernel
theorem dX8_whom_36 : decode cX8_whom 36 = .ok (.ifCond .ne 6, 3) := by decide +kernel
theorem dX8_whom_39 : decode cX8_whom 39 = .ok (.ldc 208, 2) := by decide +kernel
theorem dX8_whom_41 : decode cX8_whom 41 = .ok (.ireturn, 1) := by decide +kernel
theorem dX8_whom_42 : decode cX8_whom 42 = .ok (.aload_n 0, 1) := by decide +kernel
theorem dX8_whom_43 : decode cX8_whom 43 = .ok (.iload_n 1, 1) := by decide +kernel
theorem dX8_whom_44 : decode cX8_whom 44 = .ok (.iload_n 2, 1) := by decide +kernel
theorem dX8_whom_45 : decode cX8_whom 45 = .ok (.invokevirtual 209, 3) := by decide +kernel
theorem dX8_whom_48 : decode cX8_whom 48 = .ok (.istore 4, 2) := by decide +kernel
theorem dX8_whom_50 : decode cX8_whom 50 = .ok (.iload_n 3, 1) := by decide +kernel
theorem dX8_whom_51 : decode cX8_whom 51 = .ok (.iconst 1, 1) := by decide +kernel
theorem dX8_whom_52 : decode cX8_whom 52 = .ok (.if_icmp .ne 8, 3) := by decide +kernel
theorem dX8_whom_55 : decode cX8_whom 55 = .ok (.iload 4, 2) := by decide +kernel
theorem dX8_whom_57 : decode cX8_whom 57 = .ok (.goto 11, 3) := by decide +kernel
theorem dX8_whom_60 : decode cX8_whom 60 = .ok (.aload_n 0, 1) := by decide +kernel
theorem dX8_whom_61 : decode cX8_whom 61 = .ok (.iload_n 1, 1) := by decide +kernel
theorem dX8_whom_62 : decode cX8_whom 62 = .ok (.iload_n 2, 1) := by decide +kernel
theorem dX8_whom_63 : decode cX8_whom 63 = .ok (.iload 4, 2) := by decide +kernel
theorem dX8_whom_65 : decode cX8_whom 65 = .ok (.invokevirtual 213, 3) := by decide +kernel
theorem dX8_whom_68 : decode cX8_whom 68 = .ok (.ireturn, 1) := by decide +kernel
theorem dX8_still_0 : decode cX8_still 0 = .ok (.aload_n 0, 1) := by decide +kernel
theorem dX8_still_1 : decode cX8_still 1 = .ok (.getfield 62, 3) := by decide +kernel
theorem dX8_still_4 : decode cX8_still 4 = .ok (.ifCond .ne 6, 3) := by decide +kernel
theorem dX8_still_7 : decode cX8_still 7 = .ok (.bipush (-103), 2) := by decide +kernel
theorem dX8_still_9 : decode cX8_still 9 = .ok (.ireturn, 1) := by decide +kernel
theorem dX8_still_10 : decode cX8_still 10 = .ok (.aload_n 0, 1) := by decide +kernel
theorem dX8_still_11 : decode cX8_still 11 = .ok (.getfield 46, 3) := by decide +kernel
theorem dX8_still_14 : decode cX8_still 14 = .ok (.aload_n 0, 1) := by decide +kernel
theorem dX8_still_15 : decode cX8_still 15 = .ok (.getfield 39, 3) := by decide +kernel
theorem dX8_still_18 : decode cX8_still 18 = .ok (.invokevirtual 188, 3) := by decide +kernel
theorem dX8_still_21 : decode cX8_still 21 = .ok (.iconst 0, 1) := by decide +kernel
theorem dX8_still_22 : decode cX8_still 22 = .ok (.istore_n 1, 1) := by decide +kernel
theorem dX8_still_23 : decode cX8_still 23 = .ok (.iload_n 1, 1) := by decide +kernel
theorem dX8_still_24 : decode cX8_still 24 = .ok (.bipush 60, 2) := by decide +kernel
theorem dX8_still_26 : decode cX8_still 26 = .ok (.if_icmp .gt 23, 3) := by decide +kernel
theorem dX8_still_29 : decode cX8_still 29 = .ok (.aload_n 0, 1) := by decide +kernel
theorem dX8_still_30 : decode cX8_still 30 = .ok (.aload_n 0, 1) := by decide +kernel
theorem dX8_still_31 : decode cX8_still 31 = .ok (.getfield 46, 3) := by decide +kernel
theorem dX8_still_34 : decode cX8_still 34 = .ok (.iconst (-1), 1) := by decide +kernel
theorem dX8_still_35 : decode cX8_still 35 = .ok (.invokevirtual 185, 3) := by decide +kernel
theorem dX8_still_38 : decode cX8_still 38 = .ok (.ifCond .ne 5, 3) := by decide +kernel
theorem dX8_still_41 : decode cX8_still 41 = .ok (.iload_n 1, 1) := by decide +kernel
theorem dX8_still_42 : decode cX8_still 42 = .ok (.ireturn, 1) := by decide +kernel
theorem dX8_still_43 : decode cX8_still 43 = .ok (.iinc 1 1, 3) := by decide +kernel
theorem dX8_still_46 : decode cX8_still 46 = .ok (.goto (-23), 3) := by decide +kernel
theorem dX8_still_49 : decode cX8_still 49 = .ok (.iconst (-1), 1) := by decide +kernel
theorem dX8_still_50 : decode cX8_still 50 = .ok (.ireturn, 1) := by decide +kernel
theorem dX8_seen_0 : decode cX8_seen 0 = .ok (.aload_n 0, 1) := by decide +kernel
theorem dX8_seen_1 : decode cX8_seen 1 = .ok (.iload_n 1, 1) := by decide +kernel
theorem dX8_seen_2 : decode cX8_seen 2 = .ok (.invokevirtual 172, 3) := by decide +kernel
theorem dX8_seen_5 : decode cX8_seen 5 = .ok (.ifCond .eq 15, 3) := by decide +kernel
theorem dX8_seen_8 : decode cX8_seen 8 = .ok (.iload_n 2, 1) := by decide +kernel
theorem dX8_seen_9 : decode cX8_seen 9 = .ok (.iconst (-1), 1) := by decide +kernel
theorem dX8_seen_10 : decode cX8_seen 10 = .ok (.if_icmp .eq 13, 3) := by decide +kernel
theorem dX8_seen_13 : decode cX8_seen 13 = .ok (.iload_n 2, 1) := by decide +kernel
theorem dX8_seen_14 : decode cX8_seen 14 = .ok (.invokestatic 157, 3) := by decide +kernel
theorem dX8_seen_17 : decode cX8_seen 17 = .ok (.ifCond .ne 6, 3) := by decide +kernel
theorem dX8_seen_20 : decode cX8_seen 20 = .ok (.bipush (-101), 2) := by decide +kernel
theorem dX8_seen_22 : decode cX8_seen 22 = .ok (.ireturn, 1) := by decide +kernel
theorem dX8_seen_23 : decode cX8_seen 23 = .ok (.aload_n 0, 1) := by decide +kernel
theorem dX8_seen_24 : decode cX8_seen 24 = .ok (.getfield 39, 3) := by decide +kernel
theorem dX8_seen_27 : decode cX8_seen 27 = .ok (.getfield 169, 3) := by decide +kernel
theorem dX8_seen_30 : decode cX8_seen 30 = .ok (.iload_n 1, 1) := by decide +kernel
theorem dX8_seen_31 : decode cX8_seen 31 = .ok (.iaload, 1) := by decide +kernel
theorem dX8_seen_32 : decode cX8_seen 32 = .ok (.istore_n 3, 1) := by decide +kernel
theorem dX8_seen_33 : decode cX8_seen 33 = .ok (.aload_n 0, 1) := by decide +kernel
theorem dX8_seen_34 : decode cX8_seen 34 = .ok (.getfield 39, 3) := by decide +kernel
theorem dX8_seen_37 : decode cX8_seen 37 = .ok (.getfield 169, 3) := by decide +kernel
theorem dX8_seen_40 : decode cX8_seen 40 = .ok (.iload_n 1, 1) := by decide +kernel
theorem dX8_seen_41 : decode cX8_seen 41 = .ok (.iload_n 2, 1) := by decide +kernel
theorem dX8_seen_42 : decode cX8_seen 42 = .ok (.iastore, 1) := by decide +kernel
theorem dX8_seen_43 : decode cX8_seen 43 = .ok (.iload_n 3, 1) := by decide +kernel
theorem dX8_seen_44 : decode cX8_seen 44 = .ok (.ireturn, 1) := by decide +kernel
theorem dX8_who_0 : decode cX8_who 0 = .ok (.aload_n 0, 1) := by decide +kernel
theorem dX8_who_1 : decode cX8_who 1 = .ok (.getfield 62, 3) := by decide +kernel
theorem dX8_who_4 : decode cX8_who 4 = .ok (.ifCond .ne 6, 3) := by decide +kernel
theorem dX8_who_7 : decode cX8_who 7 = .ok (.bipush (-103), 2) := by decide +kernel
theorem dX8_who_9 : decode cX8_who 9 = .ok (.ireturn, 1) := by decide +kernel
theorem dX8_who_10 : decode cX8_who 10 = .ok (.aload_n 0, 1) := by decide +kernel
theorem dX8_who_11 : decode cX8_who 11 = .ok (.iconst (-1), 1) := by decide +kernel
theorem dX8_who_12 : decode cX8_who 12 = .ok (.invokevirtual 217, 3) := by decide +kernel
theorem dX8_who_15 : decode cX8_who 15 = .ok (.ifCond .eq 9, 3) := by decide +kernel
theorem dX8_who_18 : decode cX8_who 18 = .ok (.sipush 256, 3) := by decide +kernel
theorem dX8_who_21 : decode cX8_who 21 = .ok (.goto 4, 3) := by decide +kernel
theorem dX8_who_24 : decode cX8_who 24 = .ok (.iconst 0, 1) := by decide +kernel
theorem dX8_who_25 : decode cX8_who 25 = .ok (.istore_n 1, 1) := by decide +kernel
theorem dX8_who_26 : decode cX8_who 26 = .ok (.iconst 0, 1) := by decide +kernel
theorem dX8_who_27 : decode cX8_who 27 = .ok (.istore_n 2, 1) := by decide +kernel
theorem dX8_who_28 : decode cX8_who 28 = .ok (.iload_n 2, 1) := by decide +kernel
theorem dX8_who_29 : decode cX8_who 29 = .ok (.aload_n 0, 1) := by decide +kernel
theorem dX8_who_30 : decode cX8_who 30 = .ok (.getfield 62, 3) := by decide +kernel
theorem dX8_who_33 : decode cX8_who 33 = .ok (.if_icmp .ge 27, 3) := by decide +kernel
theorem dX8_who_36 : decode cX8_who 36 = .ok (.iload_n 1, 1) := by decide +kernel
theorem dX8_who_37 : decode cX8_who 37 = .ok (.aload_n 0, 1) := by decide +kernel
theorem dX8_who_38 : decode cX8_who 38 = .ok (.iload_n 2, 1) := by decide +kernel
theorem dX8_who_39 : decode cX8_who 39 = .ok (.invokevirtual 217, 3) := by decide +kernel
theorem dX8_who_42 : decode cX8_who 42 = .ok (.ifCond .eq 9, 3) := by decide +kernel
theorem dX8_who_45 : decode cX8_who 45 = .ok (.iconst 1, 1) := by decide +kernel
theorem dX8_who_46 : decode cX8_who 46 = .ok (.iload_n 2, 1) := by decide +kernel
theorem dX8_who_47 : decode cX8_who 47 = .ok (.ishl, 1) := by decide +kernel
theorem dX8_who_48 : decode cX8_who 48 = .ok (.goto 4, 3) := by decide +kernel
theorem dX8_who_51 : decode cX8_who 51 = .ok (.iconst 0, 1) := by decide +kernel
theorem dX8_who_52 : decode cX8_who 52 = .ok (.ior, 1) := by decide +kernel
theorem dX8_who_53 : decode cX8_who 53 = .ok (.istore_n 1, 1) := by decide +kernel
theorem dX8_who_54 : decode cX8_who 54 = .ok (.iinc 2 1, 3) := by decide +kernel
theorem dX8_who_57 : decode cX8_who 57 = .ok (.goto (-29), 3) := by decide +kernel
theorem dX8_who_60 : decode cX8_who 60 = .ok (.iload_n 1, 1) := by decide +kernel
theorem dX8_who_61 : decode cX8_who 61 = .ok (.ireturn, 1) := by decide +kernel
theorem dX8_owes_0 : decode cX8_owes 0 = .ok (.iload_n 1, 1) := by decide +kernel
theorem dX8_owes_1 : decode cX8_owes 1 = .ok (.invokestatic 157, 3) := by decide +kernel
theorem dX8_owes_4 : decode cX8_owes 4 = .ok (.ifCond .eq 15, 3) := by decide +kernel
theorem dX8_owes_7 : decode cX8_owes 7 = .ok (.iload_n 2, 1) := by decide +kernel
theorem dX8_owes_8 : decode cX8_owes 8 = .ok (.invokestatic 157, 3) := by decide +kernel
theorem dX8_owes_11 : decode cX8_owes 11 = .ok (.ifCond .eq 8, 3) := by decide +kernel
theorem dX8_owes_14 : decode cX8_owes 14 = .ok (.iload_n 1, 1) := by decide +kernel
theorem dX8_owes_15 : decode cX8_owes 15 = .ok (.iload_n 2, 1) := by decide +kernel
theorem dX8_owes_16 : decode cX8_owes 16 = .ok (.if_icmp .ne 6, 3) := by decide +kernel
theorem dX8_owes_19 : decode cX8_owes 19 = .ok (.bipush (-101), 2) := by decide +kernel
theorem dX8_owes_21 : decode cX8_owes 21 = .ok (.ireturn, 1) := by decide +kernel
theorem dX8_owes_22 : decode cX8_owes 22 = .ok (.iconst 0, 1) := by decide +kernel
theorem dX8_owes_23 : decode cX8_owes 23 = .ok (.istore_n 3, 1) := by decide +kernel
theorem dX8_owes_24 : decode cX8_owes 24 = .ok (.iconst 0, 1) := by decide +kernel
theorem dX8_owes_25 : decode cX8_owes 25 = .ok (.istore 4, 2) := by decide +kernel
theorem dX8_owes_27 : decode cX8_owes 27 = .ok (.iload 4, 2) := by decide +kernel
theorem dX8_owes_29 : decode cX8_owes 29 = .ok (.aload_n 0, 1) := by decide +kernel
theorem dX8_owes_30 : decode cX8_owes 30 = .ok (.getfield 66, 3) := by decide +kernel
theorem dX8_owes_33 : decode cX8_owes 33 = .ok (.if_icmp .ge 48, 3) := by decide +kernel
theorem dX8_owes_36 : decode cX8_owes 36 = .ok (.iload_n 3, 1) := by decide +kernel
theorem dX8_owes_37 : decode cX8_owes 37 = .ok (.aload_n 0, 1) := by decide +kernel
theorem dX8_owes_38 : decode cX8_owes 38 = .ok (.getfield 39, 3) := by decide +kernel
theorem dX8_owes_41 : decode cX8_owes 41 = .ok (.getfield 166, 3) := by decide +kernel
theorem dX8_owes_44 : decode cX8_owes 44 = .ok (.iload 4, 2) := by decide +kernel
theorem dX8_owes_46 : decode cX8_owes 46 = .ok (.iaload, 1) := by decide +kernel
theorem dX8_owes_47 : decode cX8_owes 47 = .ok (.iload_n 1, 1) := by decide +kernel
theorem dX8_owes_48 : decode cX8_owes 48 = .ok (.if_icmp .ne 24, 3) := by decide +kernel
theorem dX8_owes_51 : decode cX8_owes 51 = .ok (.aload_n 0, 1) := by decide +kernel
theorem dX8_owes_52 : decode cX8_owes 52 = .ok (.getfield 33, 3) := by decide +kernel
theorem dX8_owes_55 : decode cX8_owes 55 = .ok (.iload 4, 2) := by decide +kernel
theorem dX8_owes_57 : decode cX8_owes 57 = .ok (.iaload, 1) := by decide +kernel
theorem dX8_owes_58 : decode cX8_owes 58 = .ok (.iload_n 2, 1) := by decide +kernel
theorem dX8_owes_59 : decode cX8_owes 59 = .ok (.if_icmp .ne 13, 3) := by decide +kernel
theorem dX8_owes_62 : decode cX8_owes 62 = .ok (.aload_n 0, 1) := by decide +kernel
theorem dX8_owes_63 : decode cX8_owes 63 = .ok (.getfield 29, 3) := by decide +kernel
theorem dX8_owes_66 : decode cX8_owes 66 = .ok (.iload 4, 2) := by decide +kernel
theorem dX8_owes_68 : decode cX8_owes 68 = .ok (.iaload, 1) := by decide +kernel
theorem dX8_owes_69 : decode cX8_owes 69 = .ok (.goto 4, 3) := by decide +kernel
theorem dX8_owes_72 : decode cX8_owes 72 = .ok (.iconst 0, 1) := by decide +kernel
theorem dX8_owes_73 : decode cX8_owes 73 = .ok (.iadd, 1) := by decide +kernel
theorem dX8_owes_74 : decode cX8_owes 74 = .ok (.istore_n 3, 1) := by decide +kernel
theorem dX8_owes_75 : decode cX8_owes 75 = .ok (.iinc 4 1, 3) := by decide +kernel
theorem dX8_owes_78 : decode cX8_owes 78 = .ok (.goto (-51), 3) := by decide +kernel
theorem dX8_owes_81 : decode cX8_owes 81 = .ok (.iload_n 3, 1) := by decide +kernel
theorem dX8_owes_82 : decode cX8_owes 82 = .ok (.ireturn, 1) := by decide +kernel
theorem dX8_fewest_0 : decode cX8_fewest 0 = .ok (.aload_n 0, 1) := by decide +kernel
theorem dX8_fewest_1 : decode cX8_fewest 1 = .ok (.invokevirtual 220, 3) := by decide +kernel
theorem dX8_fewest_4 : decode cX8_fewest 4 = .ok (.aload_n 0, 1) := by decide +kernel
theorem dX8_fewest_5 : decode cX8_fewest 5 = .ok (.getfield 56, 3) := by decide +kernel
theorem dX8_fewest_8 : decode cX8_fewest 8 = .ok (.iconst 0, 1) := by decide +kernel
theorem dX8_fewest_9 : decode cX8_fewest 9 = .ok (.iconst 0, 1) := by decide +kernel
theorem dX8_fewest_10 : decode cX8_fewest 10 = .ok (.iastore, 1) := by decide +kernel
theorem dX8_fewest_11 : decode cX8_fewest 11 = .ok (.aload_n 0, 1) := by decide +kernel
theorem dX8_fewest_12 : decode cX8_fewest 12 = .ok (.getfield 59, 3) := by decide +kernel
theorem dX8_fewest_15 : decode cX8_fewest 15 = .ok (.iconst 0, 1) := by decide +kernel
theorem dX8_fewest_16 : decode cX8_fewest 16 = .ok (.iconst 0, 1) := by decide +kernel
theorem dX8_fewest_17 : decode cX8_fewest 17 = .ok (.iastore, 1) := by decide +kernel
theorem dX8_fewest_18 : decode cX8_fewest 18 = .ok (.iconst 1, 1) := by decide +kernel
theorem dX8_fewest_19 : decode cX8_fewest 19 = .ok (.istore_n 1, 1) := by decide +kernel
theorem dX8_fewest_20 : decode cX8_fewest 20 = .ok (.iload_n 1, 1) := by decide +kernel
theorem dX8_fewest_21 : decode cX8_fewest 21 = .ok (.sipush 256, 3) := by decide +kernel
theorem dX8_fewest_24 : decode cX8_fewest 24 = .ok (.if_icmp .ge 61, 3) := by decide +kernel
theorem dX8_fewest_27 : decode cX8_fewest 27 = .ok (.aload_n 0, 1) := by decide +kernel
theorem dX8_fewest_28 : decode cX8_fewest 28 = .ok (.getfield 56, 3) := by decide +kernel
theorem dX8_fewest_31 : decode cX8_fewest 31 = .ok (.iload_n 1, 1) := by decide +kernel
theorem dX8_fewest_32 : decode cX8_fewest 32 = .ok (.aload_n 0, 1) := by decide +kernel
theorem dX8_fewest_33 : decode cX8_fewest 33 = .ok (.getfield 56, 3) := by decide +kernel
theorem dX8_fewest_36 : decode cX8_fewest 36 = .ok (.iload_n 1, 1) := by decide +kernel
theorem dX8_fewest_37 : decode cX8_fewest 37 = .ok (.iload_n 1, 1) := by decide +kernel
theorem dX8_fewest_38 : decode cX8_fewest 38 = .ok (.iconst 1, 1) := by decide +kernel
theorem dX8_fewest_39 : decode cX8_fewest 39 = .ok (.isub, 1) := by decide +kernel
theorem dX8_fewest_40 : decode cX8_fewest 40 = .ok (.iand, 1) := by decide +kernel
theorem dX8_fewest_41 : decode cX8_fewest 41 = .ok (.iaload, 1) := by decide +kernel
theorem dX8_fewest_42 : decode cX8_fewest 42 = .ok (.aload_n 0, 1) := by decide +kernel
theorem dX8_fewest_43 : decode cX8_fewest 43 = .ok (.getfield 53, 3) := by decide +kernel
theorem dX8_fewest_46 : decode cX8_fewest 46 = .ok (.iload_n 1, 1) := by decide +kernel
theorem dX8_fewest_47 : decode cX8_fewest 47 = .ok (.invokestatic 223, 3) := by decide +kernel
theorem dX8_fewest_50 : decode cX8_fewest 50 = .ok (.iaload, 1) := by decide +kernel
theorem dX8_fewest_51 : decode cX8_fewest 51 = .ok (.iadd, 1) := by decide +kernel
theorem dX8_fewest_52 : decode cX8_fewest 52 = .ok (.iastore, 1) := by decide +kernel
theorem dX8_fewest_53 : decode cX8_fewest 53 = .ok (.aload_n 0, 1) := by decide +kernel
theorem dX8_fewest_54 : decode cX8_fewest 54 = .ok (.getfield 59, 3) := by decide +kernel
theorem dX8_fewest_57 : decode cX8_fewest 57 = .ok (.iload_n 1, 1) := by decide +kernel
theorem dX8_fewest_58 : decode cX8_fewest 58 = .ok (.aload_n 0, 1) := by decide +kernel
theorem dX8_fewest_59 : decode cX8_fewest 59 = .ok (.iload_n 1, 1) := by decide +kernel
theorem dX8_fewest_60 : decode cX8_fewest 60 = .ok (.invokevirtual 229, 3) := by decide +kernel
theorem dX8_fewest_63 : decode cX8_fewest 63 = .ok (.aload_n 0, 1) := by decide +kernel
theorem dX8_fewest_64 : decode cX8_fewest 64 = .ok (.getfield 56, 3) := by decide +kernel
theorem dX8_fewest_67 : decode cX8_fewest 67 = .ok (.iload_n 1, 1) := by decide +kernel
theorem dX8_fewest_68 : decode cX8_fewest 68 = .ok (.iaload, 1) := by decide +kernel
theorem dX8_fewest_69 : decode cX8_fewest 69 = .ok (.ifCond .ne 7, 3) := by decide +kernel
theorem dX8_fewest_72 : decode cX8_fewest 72 = .ok (.iconst 1, 1) := by decide +kernel
theorem dX8_fewest_73 : decode cX8_fewest 73 = .ok (.goto 4, 3) := by decide +kernel
theorem dX8_fewest_76 : decode cX8_fewest 76 = .ok (.iconst 0, 1) := by decide +kernel
theorem dX8_fewest_77 : decode cX8_fewest 77 = .ok (.iadd, 1) := by decide +kernel
theorem dX8_fewest_78 : decode cX8_fewest 78 = .ok (.iastore, 1) := by decide +kernel
theorem dX8_fewest_79 : decode cX8_fewest 79 = .ok (.iinc 1 1, 3) := by decide +kernel
theorem dX8_fewest_82 : decode cX8_fewest 82 = .ok (.goto (-62), 3) := by decide +kernel
theorem dX8_fewest_85 : decode cX8_fewest 85 = .ok (.bipush 8, 2) := by decide +kernel
theorem dX8_fewest_87 : decode cX8_fewest 87 = .ok (.aload_n 0, 1) := by decide +kernel
theorem dX8_fewest_88 : decode cX8_fewest 88 = .ok (.getfield 59, 3) := by decide +kernel
theorem dX8_fewest_91 : decode cX8_fewest 91 = .ok (.sipush 255, 3) := by decide +kernel
theorem dX8_fewest_94 : decode cX8_fewest 94 = .ok (.iaload, 1) := by decide +kernel
theorem dX8_fewest_95 : decode cX8_fewest 95 = .ok (.isub, 1) := by decide +kernel
theorem dX8_fewest_96 : decode cX8_fewest 96 = .ok (.ireturn, 1) := by decide +kernel
theorem dX8_months_0 : decode cX8_months 0 = .ok (.iload_n 1, 1) := by decide +kernel
theorem dX8_months_1 : decode cX8_months 1 = .ok (.iconst 1, 1) := by decide +kernel
theorem dX8_months_2 : decode cX8_months 2 = .ok (.if_icmp .lt 22, 3) := by decide +kernel
theorem dX8_months_5 : decode cX8_months 5 = .ok (.iload_n 1, 1) := by decide +kernel
theorem dX8_months_6 : decode cX8_months 6 = .ok (.bipush 60, 2) := by decide +kernel
theorem dX8_months_8 : decode cX8_months 8 = .ok (.if_icmp .gt 16, 3) := by decide +kernel
theorem dX8_months_11 : decode cX8_months 11 = .ok (.iload_n 2, 1) := by decide +kernel
theorem dX8_months_12 : decode cX8_months 12 = .ok (.ifCond .lt 12, 3) := by decide +kernel
theorem dX8_months_15 : decode cX8_months 15 = .ok (.iload_n 3, 1) := by decide +kernel
theorem dX8_months_16 : decode cX8_months 16 = .ok (.ifCond .lt 8, 3) := by decide +kernel
theorem dX8_months_19 : decode cX8_months 19 = .ok (.iload_n 3, 1) := by decide +kernel
theorem dX8_months_20 : decode cX8_months 20 = .ok (.iconst 2, 1) := by decide +kernel
theorem dX8_months_21 : decode cX8_months 21 = .ok (.if_icmp .le 6, 3) := by decide +kernel
theorem dX8_months_24 : decode cX8_months 24 = .ok (.bipush (-102), 2) := by decide +kernel
theorem dX8_months_26 : decode cX8_months 26 = .ok (.ireturn, 1) := by decide +kernel
theorem dX8_months_27 : decode cX8_months 27 = .ok (.aload_n 0, 1) := by decide +kernel
theorem dX8_months_28 : decode cX8_months 28 = .ok (.getfield 62, 3) := by decide +kernel
theorem dX8_months_31 : decode cX8_months 31 = .ok (.ifCond .ne 6, 3) := by decide +kernel
theorem dX8_months_34 : decode cX8_months 34 = .ok (.bipush (-103), 2) := by decide +kernel
theorem dX8_months_36 : decode cX8_months 36 = .ok (.ireturn, 1) := by decide +kernel
theorem dX8_months_37 : decode cX8_months 37 = .ok (.aload_n 0, 1) := by decide +kernel
theorem dX8_months_38 : decode cX8_months 38 = .ok (.getfield 46, 3) := by decide +kernel
theorem dX8_months_41 : decode cX8_months 41 = .ok (.aload_n 0, 1) := by decide +kernel
theorem dX8_months_42 : decode cX8_months 42 = .ok (.getfield 39, 3) := by decide +kernel
theorem dX8_months_45 : decode cX8_months 45 = .ok (.invokevirtual 188, 3) := by decide +kernel
theorem dX8_months_48 : decode cX8_months 48 = .ok (.iload_n 2, 1) := by decide +kernel
theorem dX8_months_49 : decode cX8_months 49 = .ok (.istore 4, 2) := by decide +kernel
theorem dX8_months_51 : decode cX8_months 51 = .ok (.iconst 0, 1) := by decide +kernel
theorem dX8_months_52 : decode cX8_months 52 = .ok (.istore 5, 2) := by decide +kernel
theorem dX8_months_54 : decode cX8_months 54 = .ok (.iconst 0, 1) := by decide +kernel
theorem dX8_months_55 : decode cX8_months 55 = .ok (.istore 6, 2) := by decide +kernel
theorem dX8_months_57 : decode cX8_months 57 = .ok (.iload 6, 2) := by decide +kernel
theorem dX8_months_59 : decode cX8_months 59 = .ok (.iload_n 1, 1) := by decide +kernel
theorem dX8_months_60 : decode cX8_months 60 = .ok (.if_icmp .ge 78, 3) := by decide +kernel
theorem dX8_months_63 : decode cX8_months 63 = .ok (.iconst 0, 1) := by decide +kernel
theorem dX8_months_64 : decode cX8_months 64 = .ok (.istore 7, 2) := by decide +kernel
theorem dX8_months_66 : decode cX8_months 66 = .ok (.iload 7, 2) := by decide +kernel
theorem dX8_months_68 : decode cX8_months 68 = .ok (.aload_n 0, 1) := by decide +kernel
theorem dX8_months_69 : decode cX8_months 69 = .ok (.getfield 62, 3) := by decide +kernel
theorem dX8_months_72 : decode cX8_months 72 = .ok (.if_icmp .ge 53, 3) := by decide +kernel
theorem dX8_months_75 : decode cX8_months 75 = .ok (.iload 4, 2) := by decide +kernel
theorem dX8_months_77 : decode cX8_months 77 = .ok (.invokestatic 232, 3) := by decide +kernel
theorem dX8_months_80 : decode cX8_months 80 = .ok (.istore 4, 2) := by decide +kernel
theorem dX8_months_82 : decode cX8_months 82 = .ok (.iload 5, 2) := by decide +kernel
theorem dX8_months_84 : decode cX8_months 84 = .ok (.iload 4, 2) := by decide +kernel
theorem dX8_months_86 : decode cX8_months 86 = .ok (.invokestatic 235, 3) := by decide +kernel
theorem dX8_months_89 : decode cX8_months 89 = .ok (.aload_n 0, 1) := by decide +kernel
theorem dX8_months_90 : decode cX8_months 90 = .ok (.getfield 46, 3) := by decide +kernel
theorem dX8_months_93 : decode cX8_months 93 = .ok (.getfield 130, 3) := by decide +kernel
theorem dX8_months_96 : decode cX8_months 96 = .ok (.iload 7, 2) := by decide +kernel
theorem dX8_months_98 : decode cX8_months 98 = .ok (.iaload, 1) := by decide +kernel
theorem dX8_months_99 : decode cX8_months 99 = .ok (.if_icmp .ge 16, 3) := by decide +kernel
theorem dX8_months_102 : decode cX8_months 102 = .ok (.aload_n 0, 1) := by decide +kernel
theorem dX8_months_103 : decode cX8_months 103 = .ok (.aload_n 0, 1) := by decide +kernel
theorem dX8_months_104 : decode cX8_months 104 = .ok (.getfield 46, 3) := by decide +kernel
theorem dX8_months_107 : decode cX8_months 107 = .ok (.iload 7, 2) := by decide +kernel
theorem dX8_months_109 : decode cX8_months 109 = .ok (.invokevirtual 238, 3) := by decide +kernel
theorem dX8_months_112 : decode cX8_months 112 = .ok (.goto 4, 3) := by decide +kernel
theorem dX8_months_115 : decode cX8_months 115 = .ok (.iconst 0, 1) := by decide +kernel
theorem dX8_months_116 : decode cX8_months 116 = .ok (.iadd, 1) := by decide +kernel
theorem dX8_months_117 : decode cX8_months 117 = .ok (.istore 5, 2) := by decide +kernel
theorem dX8_months_119 : decode cX8_months 119 = .ok (.iinc 7 1, 3) := by decide +kernel
theorem dX8_months_122 : decode cX8_months 122 = .ok (.goto (-56), 3) := by decide +kernel
theorem dX8_months_125 : decode cX8_months 125 = .ok (.aload_n 0, 1) := by decide +kernel
theorem dX8_months_126 : decode cX8_months 126 = .ok (.getfield 46, 3) := by decide +kernel
theorem dX8_months_129 : decode cX8_months 129 = .ok (.invokevirtual 241, 3) := by decide +kernel
theorem dX8_months_132 : decode cX8_months 132 = .ok (.iinc 6 1, 3) := by decide +kernel
theorem dX8_months_135 : decode cX8_months 135 = .ok (.goto (-78), 3) := by decide +kernel
theorem dX8_months_138 : decode cX8_months 138 = .ok (.iload_n 3, 1) := by decide +kernel
theorem dX8_months_139 : decode cX8_months 139 = .ok (.lookupswitch 37 #[(0, 25), (1, 34)], 25) := by decide +kernel
theorem dX8_months_164 : decode cX8_months 164 = .ok (.aload_n 0, 1) := by decide +kernel
theorem dX8_months_165 : decode cX8_months 165 = .ok (.aload_n 0, 1) := by decide +kernel
theorem dX8_months_166 : decode cX8_months 166 = .ok (.getfield 46, 3) := by decide +kernel
theorem dX8_months_169 : decode cX8_months 169 = .ok (.invokevirtual 244, 3) := by decide +kernel
theorem dX8_months_172 : decode cX8_months 172 = .ok (.ireturn, 1) := by decide +kernel
theorem dX8_months_173 : decode cX8_months 173 = .ok (.iload 5, 2) := by decide +kernel
theorem dX8_months_175 : decode cX8_months 175 = .ok (.ireturn, 1) := by decide +kernel
theorem dX8_months_176 : decode cX8_months 176 = .ok (.iload 4, 2) := by decide +kernel
theorem dX8_months_178 : decode cX8_months 178 = .ok (.ireturn, 1) := by decide +kernel
theorem dX8_image_0 : decode cX8_image 0 = .ok (.aload_n 0, 1) := by decide +kernel
theorem dX8_image_1 : decode cX8_image 1 = .ok (.getfield 43, 3) := by decide +kernel
theorem dX8_image_4 : decode cX8_image 4 = .ok (.aload_n 0, 1) := by decide +kernel
theorem dX8_image_5 : decode cX8_image 5 = .ok (.getfield 39, 3) := by decide +kernel
theorem dX8_image_8 : decode cX8_image 8 = .ok (.invokevirtual 188, 3) := by decide +kernel
theorem dX8_image_11 : decode cX8_image 11 = .ok (.aload_n 0, 1) := by decide +kernel
theorem dX8_image_12 : decode cX8_image 12 = .ok (.iconst 1, 1) := by decide +kernel
theorem dX8_image_13 : decode cX8_image 13 = .ok (.putfield 72, 3) := by decide +kernel
theorem dX8_image_16 : decode cX8_image 16 = .ok (.aload_n 0, 1) := by decide +kernel
theorem dX8_image_17 : decode cX8_image 17 = .ok (.aload_n 0, 1) := by decide +kernel
theorem dX8_image_18 : decode cX8_image 18 = .ok (.getfield 69, 3) := by decide +kernel
theorem dX8_image_21 : decode cX8_image 21 = .ok (.putfield 76, 3) := by decide +kernel
theorem dX8_image_24 : decode cX8_image 24 = .ok (.aload_n 0, 1) := by decide +kernel
theorem dX8_image_25 : decode cX8_image 25 = .ok (.aload_n 0, 1) := by decide +kernel
theorem dX8_image_26 : decode cX8_image 26 = .ok (.getfield 66, 3) := by decide +kernel
theorem dX8_image_29 : decode cX8_image 29 = .ok (.putfield 79, 3) := by decide +kernel
theorem dX8_image_32 : decode cX8_image 32 = .ok (.aload_n 0, 1) := by decide +kernel
theorem dX8_image_33 : decode cX8_image 33 = .ok (.getfield 66, 3) := by decide +kernel
theorem dX8_image_36 : decode cX8_image 36 = .ok (.ireturn, 1) := by decide +kernel
theorem dX8_restore_0 : decode cX8_restore 0 = .ok (.aload_n 0, 1) := by decide +kernel
theorem dX8_restore_1 : decode cX8_restore 1 = .ok (.getfield 72, 3) := by decide +kernel
theorem dX8_restore_4 : decode cX8_restore 4 = .ok (.ifCond .eq 25, 3) := by decide +kernel
theorem dX8_restore_7 : decode cX8_restore 7 = .ok (.aload_n 0, 1) := by decide +kernel
theorem dX8_restore_8 : decode cX8_restore 8 = .ok (.getfield 76, 3) := by decide +kernel
theorem dX8_restore_11 : decode cX8_restore 11 = .ok (.aload_n 0, 1) := by decide +kernel
theorem dX8_restore_12 : decode cX8_restore 12 = .ok (.getfield 69, 3) := by decide +kernel
theorem dX8_restore_15 : decode cX8_restore 15 = .ok (.if_icmp .ne 14, 3) := by decide +kernel
