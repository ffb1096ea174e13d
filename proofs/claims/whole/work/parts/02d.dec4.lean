theorem dX9_settle_22 : decode cX9_settle 22 = .ok (.getfield 74, 3) := by decide +kernel
theorem dX9_settle_25 : decode cX9_settle 25 = .ok (.iconst 0, 1) := by decide +kernel
theorem dX9_settle_26 : decode cX9_settle 26 = .ok (.iaload, 1) := by decide +kernel
theorem dX9_settle_27 : decode cX9_settle 27 = .ok (.bipush 39, 2) := by decide +kernel
theorem dX9_settle_29 : decode cX9_settle 29 = .ok (.if_icmp .ne 5, 3) := by decide +kernel
theorem dX9_settle_32 : decode cX9_settle 32 = .ok (.iconst (-1), 1) := by decide +kernel
theorem dX9_settle_33 : decode cX9_settle 33 = .ok (.ireturn, 1) := by decide +kernel
theorem dX9_settle_34 : decode cX9_settle 34 = .ok (.aload_n 0, 1) := by decide +kernel
theorem dX9_settle_35 : decode cX9_settle 35 = .ok (.invokevirtual 266, 3) := by decide +kernel
theorem dX9_settle_38 : decode cX9_settle 38 = .ok (.aload_n 0, 1) := by decide +kernel
theorem dX9_settle_39 : decode cX9_settle 39 = .ok (.iload_n 1, 1) := by decide +kernel
theorem dX9_settle_40 : decode cX9_settle 40 = .ok (.invokevirtual 216, 3) := by decide +kernel
theorem dX9_settle_43 : decode cX9_settle 43 = .ok (.istore_n 2, 1) := by decide +kernel
theorem dX9_settle_44 : decode cX9_settle 44 = .ok (.sipush 245, 3) := by decide +kernel
theorem dX9_settle_47 : decode cX9_settle 47 = .ok (.iconst 5, 1) := by decide +kernel
theorem dX9_settle_48 : decode cX9_settle 48 = .ok (.iload_n 1, 1) := by decide +kernel
theorem dX9_settle_49 : decode cX9_settle 49 = .ok (.imul, 1) := by decide +kernel
theorem dX9_settle_50 : decode cX9_settle 50 = .ok (.iadd, 1) := by decide +kernel
theorem dX9_settle_51 : decode cX9_settle 51 = .ok (.istore_n 3, 1) := by decide +kernel
theorem dX9_settle_52 : decode cX9_settle 52 = .ok (.aload_n 0, 1) := by decide +kernel
theorem dX9_settle_53 : decode cX9_settle 53 = .ok (.getfield 74, 3) := by decide +kernel
theorem dX9_settle_56 : decode cX9_settle 56 = .ok (.iload_n 3, 1) := by decide +kernel
theorem dX9_settle_57 : decode cX9_settle 57 = .ok (.iconst 2, 1) := by decide +kernel
theorem dX9_settle_58 : decode cX9_settle 58 = .ok (.iadd, 1) := by decide +kernel
theorem dX9_settle_59 : decode cX9_settle 59 = .ok (.iload_n 2, 1) := by decide +kernel
theorem dX9_settle_60 : decode cX9_settle 60 = .ok (.iastore, 1) := by decide +kernel
theorem dX9_settle_61 : decode cX9_settle 61 = .ok (.aload_n 0, 1) := by decide +kernel
theorem dX9_settle_62 : decode cX9_settle 62 = .ok (.getfield 74, 3) := by decide +kernel
theorem dX9_settle_65 : decode cX9_settle 65 = .ok (.iload_n 3, 1) := by decide +kernel
theorem dX9_settle_66 : decode cX9_settle 66 = .ok (.iconst 3, 1) := by decide +kernel
theorem dX9_settle_67 : decode cX9_settle 67 = .ok (.iadd, 1) := by decide +kernel
theorem dX9_settle_68 : decode cX9_settle 68 = .ok (.aload_n 0, 1) := by decide +kernel
theorem dX9_settle_69 : decode cX9_settle 69 = .ok (.getfield 74, 3) := by decide +kernel
theorem dX9_settle_72 : decode cX9_settle 72 = .ok (.iconst 0, 1) := by decide +kernel
theorem dX9_settle_73 : decode cX9_settle 73 = .ok (.iaload, 1) := by decide +kernel
theorem dX9_settle_74 : decode cX9_settle 74 = .ok (.iconst 1, 1) := by decide +kernel
theorem dX9_settle_75 : decode cX9_settle 75 = .ok (.iadd, 1) := by decide +kernel
theorem dX9_settle_76 : decode cX9_settle 76 = .ok (.iastore, 1) := by decide +kernel
theorem dX9_settle_77 : decode cX9_settle 77 = .ok (.aload_n 0, 1) := by decide +kernel
theorem dX9_settle_78 : decode cX9_settle 78 = .ok (.getfield 74, 3) := by decide +kernel
theorem dX9_settle_81 : decode cX9_settle 81 = .ok (.iload_n 3, 1) := by decide +kernel
theorem dX9_settle_82 : decode cX9_settle 82 = .ok (.iconst 4, 1) := by decide +kernel
theorem dX9_settle_83 : decode cX9_settle 83 = .ok (.iadd, 1) := by decide +kernel
theorem dX9_settle_84 : decode cX9_settle 84 = .ok (.aload_n 0, 1) := by decide +kernel
theorem dX9_settle_85 : decode cX9_settle 85 = .ok (.getfield 74, 3) := by decide +kernel
theorem dX9_settle_88 : decode cX9_settle 88 = .ok (.iconst 0, 1) := by decide +kernel
theorem dX9_settle_89 : decode cX9_settle 89 = .ok (.iaload, 1) := by decide +kernel
theorem dX9_settle_90 : decode cX9_settle 90 = .ok (.iconst 1, 1) := by decide +kernel
theorem dX9_settle_91 : decode cX9_settle 91 = .ok (.iadd, 1) := by decide +kernel
theorem dX9_settle_92 : decode cX9_settle 92 = .ok (.iastore, 1) := by decide +kernel
theorem dX9_settle_93 : decode cX9_settle 93 = .ok (.iload_n 2, 1) := by decide +kernel
theorem dX9_settle_94 : decode cX9_settle 94 = .ok (.ireturn, 1) := by decide +kernel
theorem dX9_addsLoss_0 : decode cX9_addsLoss 0 = .ok (.sipush 395, 3) := by decide +kernel
theorem dX9_addsLoss_3 : decode cX9_addsLoss 3 = .ok (.iconst 4, 1) := by decide +kernel
theorem dX9_addsLoss_4 : decode cX9_addsLoss 4 = .ok (.aload_n 0, 1) := by decide +kernel
theorem dX9_addsLoss_5 : decode cX9_addsLoss 5 = .ok (.getfield 74, 3) := by decide +kernel
theorem dX9_addsLoss_8 : decode cX9_addsLoss 8 = .ok (.iconst 4, 1) := by decide +kernel
theorem dX9_addsLoss_9 : decode cX9_addsLoss 9 = .ok (.iaload, 1) := by decide +kernel
theorem dX9_addsLoss_10 : decode cX9_addsLoss 10 = .ok (.imul, 1) := by decide +kernel
theorem dX9_addsLoss_11 : decode cX9_addsLoss 11 = .ok (.iadd, 1) := by decide +kernel
theorem dX9_addsLoss_12 : decode cX9_addsLoss 12 = .ok (.istore 4, 2) := by decide +kernel
theorem dX9_addsLoss_14 : decode cX9_addsLoss 14 = .ok (.aload_n 0, 1) := by decide +kernel
theorem dX9_addsLoss_15 : decode cX9_addsLoss 15 = .ok (.getfield 74, 3) := by decide +kernel
theorem dX9_addsLoss_18 : decode cX9_addsLoss 18 = .ok (.iload 4, 2) := by decide +kernel
theorem dX9_addsLoss_20 : decode cX9_addsLoss 20 = .ok (.iconst 0, 1) := by decide +kernel
theorem dX9_addsLoss_21 : decode cX9_addsLoss 21 = .ok (.iadd, 1) := by decide +kernel
theorem dX9_addsLoss_22 : decode cX9_addsLoss 22 = .ok (.iload_n 1, 1) := by decide +kernel
theorem dX9_addsLoss_23 : decode cX9_addsLoss 23 = .ok (.iastore, 1) := by decide +kernel
theorem dX9_addsLoss_24 : decode cX9_addsLoss 24 = .ok (.aload_n 0, 1) := by decide +kernel
theorem dX9_addsLoss_25 : decode cX9_addsLoss 25 = .ok (.getfield 74, 3) := by decide +kernel
theorem dX9_addsLoss_28 : decode cX9_addsLoss 28 = .ok (.iload 4, 2) := by decide +kernel
theorem dX9_addsLoss_30 : decode cX9_addsLoss 30 = .ok (.iconst 1, 1) := by decide +kernel
theorem dX9_addsLoss_31 : decode cX9_addsLoss 31 = .ok (.iadd, 1) := by decide +kernel
theorem dX9_addsLoss_32 : decode cX9_addsLoss 32 = .ok (.iload_n 2, 1) := by decide +kernel
theorem dX9_addsLoss_33 : decode cX9_addsLoss 33 = .ok (.iastore, 1) := by decide +kernel
theorem dX9_addsLoss_34 : decode cX9_addsLoss 34 = .ok (.aload_n 0, 1) := by decide +kernel
theorem dX9_addsLoss_35 : decode cX9_addsLoss 35 = .ok (.getfield 74, 3) := by decide +kernel
theorem dX9_addsLoss_38 : decode cX9_addsLoss 38 = .ok (.iload 4, 2) := by decide +kernel
theorem dX9_addsLoss_40 : decode cX9_addsLoss 40 = .ok (.iconst 2, 1) := by decide +kernel
theorem dX9_addsLoss_41 : decode cX9_addsLoss 41 = .ok (.iadd, 1) := by decide +kernel
theorem dX9_addsLoss_42 : decode cX9_addsLoss 42 = .ok (.iload_n 3, 1) := by decide +kernel
theorem dX9_addsLoss_43 : decode cX9_addsLoss 43 = .ok (.iastore, 1) := by decide +kernel
theorem dX9_addsLoss_44 : decode cX9_addsLoss 44 = .ok (.aload_n 0, 1) := by decide +kernel
theorem dX9_addsLoss_45 : decode cX9_addsLoss 45 = .ok (.getfield 74, 3) := by decide +kernel
theorem dX9_addsLoss_48 : decode cX9_addsLoss 48 = .ok (.iload 4, 2) := by decide +kernel
theorem dX9_addsLoss_50 : decode cX9_addsLoss 50 = .ok (.iconst 3, 1) := by decide +kernel
theorem dX9_addsLoss_51 : decode cX9_addsLoss 51 = .ok (.iadd, 1) := by decide +kernel
theorem dX9_addsLoss_52 : decode cX9_addsLoss 52 = .ok (.iload_n 2, 1) := by decide +kernel
theorem dX9_addsLoss_53 : decode cX9_addsLoss 53 = .ok (.iastore, 1) := by decide +kernel
theorem dX9_addsLoss_54 : decode cX9_addsLoss 54 = .ok (.aload_n 0, 1) := by decide +kernel
theorem dX9_addsLoss_55 : decode cX9_addsLoss 55 = .ok (.getfield 74, 3) := by decide +kernel
theorem dX9_addsLoss_58 : decode cX9_addsLoss 58 = .ok (.iconst 4, 1) := by decide +kernel
theorem dX9_addsLoss_59 : decode cX9_addsLoss 59 = .ok (.dup2, 1) := by decide +kernel
theorem dX9_addsLoss_60 : decode cX9_addsLoss 60 = .ok (.iaload, 1) := by decide +kernel
theorem dX9_addsLoss_61 : decode cX9_addsLoss 61 = .ok (.iconst 1, 1) := by decide +kernel
theorem dX9_addsLoss_62 : decode cX9_addsLoss 62 = .ok (.iadd, 1) := by decide +kernel
theorem dX9_addsLoss_63 : decode cX9_addsLoss 63 = .ok (.iastore, 1) := by decide +kernel
theorem dX9_addsLoss_64 : decode cX9_addsLoss 64 = .ok (.aload_n 0, 1) := by decide +kernel
theorem dX9_addsLoss_65 : decode cX9_addsLoss 65 = .ok (.getfield 74, 3) := by decide +kernel
theorem dX9_addsLoss_68 : decode cX9_addsLoss 68 = .ok (.iconst 4, 1) := by decide +kernel
theorem dX9_addsLoss_69 : decode cX9_addsLoss 69 = .ok (.iaload, 1) := by decide +kernel
theorem dX9_addsLoss_70 : decode cX9_addsLoss 70 = .ok (.iconst 1, 1) := by decide +kernel
theorem dX9_addsLoss_71 : decode cX9_addsLoss 71 = .ok (.isub, 1) := by decide +kernel
theorem dX9_addsLoss_72 : decode cX9_addsLoss 72 = .ok (.ireturn, 1) := by decide +kernel
theorem dX9_loses_0 : decode cX9_loses 0 = .ok (.aload_n 0, 1) := by decide +kernel
theorem dX9_loses_1 : decode cX9_loses 1 = .ok (.iconst 0, 1) := by decide +kernel
theorem dX9_loses_2 : decode cX9_loses 2 = .ok (.putfield 1, 3) := by decide +kernel
theorem dX9_loses_5 : decode cX9_loses 5 = .ok (.aload_n 0, 1) := by decide +kernel
theorem dX9_loses_6 : decode cX9_loses 6 = .ok (.iload_n 1, 1) := by decide +kernel
theorem dX9_loses_7 : decode cX9_loses 7 = .ok (.invokevirtual 244, 3) := by decide +kernel
theorem dX9_loses_10 : decode cX9_loses 10 = .ok (.ifCond .eq 21, 3) := by decide +kernel
theorem dX9_loses_13 : decode cX9_loses 13 = .ok (.iload_n 2, 1) := by decide +kernel
theorem dX9_loses_14 : decode cX9_loses 14 = .ok (.iconst 1, 1) := by decide +kernel
theorem dX9_loses_15 : decode cX9_loses 15 = .ok (.ldc 146, 2) := by decide +kernel
theorem dX9_loses_17 : decode cX9_loses 17 = .ok (.invokestatic 113, 3) := by decide +kernel
theorem dX9_loses_20 : decode cX9_loses 20 = .ok (.ifCond .eq 11, 3) := by decide +kernel
theorem dX9_loses_23 : decode cX9_loses 23 = .ok (.aload_n 0, 1) := by decide +kernel
theorem dX9_loses_24 : decode cX9_loses 24 = .ok (.iload_n 3, 1) := by decide +kernel
theorem dX9_loses_25 : decode cX9_loses 25 = .ok (.invokevirtual 250, 3) := by decide +kernel
theorem dX9_loses_28 : decode cX9_loses 28 = .ok (.ifCond .ne 5, 3) := by decide +kernel
theorem dX9_loses_31 : decode cX9_loses 31 = .ok (.iconst (-1), 1) := by decide +kernel
theorem dX9_loses_32 : decode cX9_loses 32 = .ok (.ireturn, 1) := by decide +kernel
theorem dX9_loses_33 : decode cX9_loses 33 = .ok (.aload_n 0, 1) := by decide +kernel
theorem dX9_loses_34 : decode cX9_loses 34 = .ok (.getfield 74, 3) := by decide +kernel
theorem dX9_loses_37 : decode cX9_loses 37 = .ok (.iconst 4, 1) := by decide +kernel
theorem dX9_loses_38 : decode cX9_loses 38 = .ok (.iaload, 1) := by decide +kernel
theorem dX9_loses_39 : decode cX9_loses 39 = .ok (.bipush 10, 2) := by decide +kernel
theorem dX9_loses_41 : decode cX9_loses 41 = .ok (.if_icmp .ne 6, 3) := by decide +kernel
theorem dX9_loses_44 : decode cX9_loses 44 = .ok (.bipush (-2), 2) := by decide +kernel
theorem dX9_loses_46 : decode cX9_loses 46 = .ok (.ireturn, 1) := by decide +kernel
theorem dX9_loses_47 : decode cX9_loses 47 = .ok (.aload_n 0, 1) := by decide +kernel
theorem dX9_loses_48 : decode cX9_loses 48 = .ok (.invokevirtual 266, 3) := by decide +kernel
theorem dX9_loses_51 : decode cX9_loses 51 = .ok (.aload_n 0, 1) := by decide +kernel
theorem dX9_loses_52 : decode cX9_loses 52 = .ok (.iload_n 1, 1) := by decide +kernel
theorem dX9_loses_53 : decode cX9_loses 53 = .ok (.iload_n 2, 1) := by decide +kernel
theorem dX9_loses_54 : decode cX9_loses 54 = .ok (.iload_n 3, 1) := by decide +kernel
theorem dX9_loses_55 : decode cX9_loses 55 = .ok (.invokevirtual 269, 3) := by decide +kernel
theorem dX9_loses_58 : decode cX9_loses 58 = .ok (.ireturn, 1) := by decide +kernel
theorem dX9_bears_0 : decode cX9_bears 0 = .ok (.aload_n 0, 1) := by decide +kernel
theorem dX9_bears_1 : decode cX9_bears 1 = .ok (.getfield 74, 3) := by decide +kernel
theorem dX9_bears_4 : decode cX9_bears 4 = .ok (.iconst 0, 1) := by decide +kernel
theorem dX9_bears_5 : decode cX9_bears 5 = .ok (.iaload, 1) := by decide +kernel
theorem dX9_bears_6 : decode cX9_bears 6 = .ok (.istore_n 2, 1) := by decide +kernel
theorem dX9_bears_7 : decode cX9_bears 7 = .ok (.aload_n 0, 1) := by decide +kernel
theorem dX9_bears_8 : decode cX9_bears 8 = .ok (.iload_n 1, 1) := by decide +kernel
theorem dX9_bears_9 : decode cX9_bears 9 = .ok (.iload_n 2, 1) := by decide +kernel
theorem dX9_bears_10 : decode cX9_bears 10 = .ok (.invokevirtual 196, 3) := by decide +kernel
theorem dX9_bears_13 : decode cX9_bears 13 = .ok (.aload_n 0, 1) := by decide +kernel
theorem dX9_bears_14 : decode cX9_bears 14 = .ok (.iload_n 1, 1) := by decide +kernel
theorem dX9_bears_15 : decode cX9_bears 15 = .ok (.iload_n 2, 1) := by decide +kernel
theorem dX9_bears_16 : decode cX9_bears 16 = .ok (.iconst 1, 1) := by decide +kernel
theorem dX9_bears_17 : decode cX9_bears 17 = .ok (.invokevirtual 192, 3) := by decide +kernel
theorem dX9_bears_20 : decode cX9_bears 20 = .ok (.iadd, 1) := by decide +kernel
theorem dX9_bears_21 : decode cX9_bears 21 = .ok (.aload_n 0, 1) := by decide +kernel
theorem dX9_bears_22 : decode cX9_bears 22 = .ok (.iload_n 1, 1) := by decide +kernel
theorem dX9_bears_23 : decode cX9_bears 23 = .ok (.iload_n 2, 1) := by decide +kernel
theorem dX9_bears_24 : decode cX9_bears 24 = .ok (.iconst 0, 1) := by decide +kernel
theorem dX9_bears_25 : decode cX9_bears 25 = .ok (.invokevirtual 192, 3) := by decide +kernel
theorem dX9_bears_28 : decode cX9_bears 28 = .ok (.isub, 1) := by decide +kernel
theorem dX9_bears_29 : decode cX9_bears 29 = .ok (.istore_n 3, 1) := by decide +kernel
theorem dX9_bears_30 : decode cX9_bears 30 = .ok (.aload_n 0, 1) := by decide +kernel
theorem dX9_bears_31 : decode cX9_bears 31 = .ok (.getfield 74, 3) := by decide +kernel
theorem dX9_bears_34 : decode cX9_bears 34 = .ok (.iload_n 1, 1) := by decide +kernel
theorem dX9_bears_35 : decode cX9_bears 35 = .ok (.iload_n 2, 1) := by decide +kernel
theorem dX9_bears_36 : decode cX9_bears 36 = .ok (.invokestatic 257, 3) := by decide +kernel
theorem dX9_bears_39 : decode cX9_bears 39 = .ok (.iconst 5, 1) := by decide +kernel
theorem dX9_bears_40 : decode cX9_bears 40 = .ok (.iadd, 1) := by decide +kernel
theorem dX9_bears_41 : decode cX9_bears 41 = .ok (.iload_n 3, 1) := by decide +kernel
theorem dX9_bears_42 : decode cX9_bears 42 = .ok (.iastore, 1) := by decide +kernel
theorem dX9_bears_43 : decode cX9_bears 43 = .ok (.iload_n 3, 1) := by decide +kernel
theorem dX9_bears_44 : decode cX9_bears 44 = .ok (.ifCond .ge 57, 3) := by decide +kernel
theorem dX9_bears_47 : decode cX9_bears 47 = .ok (.aload_n 0, 1) := by decide +kernel
theorem dX9_bears_48 : decode cX9_bears 48 = .ok (.getfield 74, 3) := by decide +kernel
theorem dX9_bears_51 : decode cX9_bears 51 = .ok (.iconst 1, 1) := by decide +kernel
theorem dX9_bears_52 : decode cX9_bears 52 = .ok (.iaload, 1) := by decide +kernel
theorem dX9_bears_53 : decode cX9_bears 53 = .ok (.ifCond .le 48, 3) := by decide +kernel
theorem dX9_bears_56 : decode cX9_bears 56 = .ok (.aload_n 0, 1) := by decide +kernel
theorem dX9_bears_57 : decode cX9_bears 57 = .ok (.getfield 74, 3) := by decide +kernel
theorem dX9_bears_60 : decode cX9_bears 60 = .ok (.iconst 4, 1) := by decide +kernel
theorem dX9_bears_61 : decode cX9_bears 61 = .ok (.iaload, 1) := by decide +kernel
theorem dX9_bears_62 : decode cX9_bears 62 = .ok (.bipush 10, 2) := by decide +kernel
theorem dX9_bears_64 : decode cX9_bears 64 = .ok (.if_icmp .ge 37, 3) := by decide +kernel
theorem dX9_bears_67 : decode cX9_bears 67 = .ok (.aload_n 0, 1) := by decide +kernel
theorem dX9_bears_68 : decode cX9_bears 68 = .ok (.iload_n 1, 1) := by decide +kernel
theorem dX9_bears_69 : decode cX9_bears 69 = .ok (.iload_n 3, 1) := by decide +kernel
theorem dX9_bears_70 : decode cX9_bears 70 = .ok (.ineg, 1) := by decide +kernel
theorem dX9_bears_71 : decode cX9_bears 71 = .ok (.iload_n 2, 1) := by decide +kernel
theorem dX9_bears_72 : decode cX9_bears 72 = .ok (.aload_n 0, 1) := by decide +kernel
theorem dX9_bears_73 : decode cX9_bears 73 = .ok (.getfield 74, 3) := by decide +kernel
theorem dX9_bears_76 : decode cX9_bears 76 = .ok (.iconst 1, 1) := by decide +kernel
theorem dX9_bears_77 : decode cX9_bears 77 = .ok (.iaload, 1) := by decide +kernel
theorem dX9_bears_78 : decode cX9_bears 78 = .ok (.iadd, 1) := by decide +kernel
theorem dX9_bears_79 : decode cX9_bears 79 = .ok (.bipush 40, 2) := by decide +kernel
theorem dX9_bears_81 : decode cX9_bears 81 = .ok (.if_icmp .ge 14, 3) := by decide +kernel
theorem dX9_bears_84 : decode cX9_bears 84 = .ok (.iload_n 2, 1) := by decide +kernel
theorem dX9_bears_85 : decode cX9_bears 85 = .ok (.aload_n 0, 1) := by decide +kernel
theorem dX9_bears_86 : decode cX9_bears 86 = .ok (.getfield 74, 3) := by decide +kernel
theorem dX9_bears_89 : decode cX9_bears 89 = .ok (.iconst 1, 1) := by decide +kernel
theorem dX9_bears_90 : decode cX9_bears 90 = .ok (.iaload, 1) := by decide +kernel
theorem dX9_bears_91 : decode cX9_bears 91 = .ok (.iadd, 1) := by decide +kernel
theorem dX9_bears_92 : decode cX9_bears 92 = .ok (.goto 5, 3) := by decide +kernel
theorem dX9_bears_95 : decode cX9_bears 95 = .ok (.bipush 39, 2) := by decide +kernel
theorem dX9_bears_97 : decode cX9_bears 97 = .ok (.invokevirtual 269, 3) := by decide +kernel
theorem dX9_bears_100 : decode cX9_bears 100 = .ok (.pop, 1) := by decide +kernel
theorem dX9_bears_101 : decode cX9_bears 101 = .ok (.iconst 0, 1) := by decide +kernel
theorem dX9_bears_102 : decode cX9_bears 102 = .ok (.istore 4, 2) := by decide +kernel
theorem dX9_bears_104 : decode cX9_bears 104 = .ok (.iload_n 3, 1) := by decide +kernel
theorem dX9_bears_105 : decode cX9_bears 105 = .ok (.ifCond .le 150, 3) := by decide +kernel
theorem dX9_bears_108 : decode cX9_bears 108 = .ok (.iload 4, 2) := by decide +kernel
theorem dX9_bears_110 : decode cX9_bears 110 = .ok (.iconst (-1), 1) := by decide +kernel
theorem dX9_bears_111 : decode cX9_bears 111 = .ok (.if_icmp .eq 144, 3) := by decide +kernel
theorem dX9_bears_114 : decode cX9_bears 114 = .ok (.iconst (-1), 1) := by decide +kernel
theorem dX9_bears_115 : decode cX9_bears 115 = .ok (.istore 4, 2) := by decide +kernel
theorem dX9_bears_117 : decode cX9_bears 117 = .ok (.iconst 0, 1) := by decide +kernel
theorem dX9_bears_118 : decode cX9_bears 118 = .ok (.istore 5, 2) := by decide +kernel
theorem dX9_bears_120 : decode cX9_bears 120 = .ok (.iload 5, 2) := by decide +kernel
theorem dX9_bears_122 : decode cX9_bears 122 = .ok (.aload_n 0, 1) := by decide +kernel
theorem dX9_bears_123 : decode cX9_bears 123 = .ok (.getfield 74, 3) := by decide +kernel
theorem dX9_bears_126 : decode cX9_bears 126 = .ok (.iconst 4, 1) := by decide +kernel
theorem dX9_bears_127 : decode cX9_bears 127 = .ok (.iaload, 1) := by decide +kernel
theorem dX9_bears_128 : decode cX9_bears 128 = .ok (.if_icmp .ge 68, 3) := by decide +kernel
theorem dX9_bears_131 : decode cX9_bears 131 = .ok (.aload_n 0, 1) := by decide +kernel
theorem dX9_bears_132 : decode cX9_bears 132 = .ok (.iload 5, 2) := by decide +kernel
theorem dX9_bears_134 : decode cX9_bears 134 = .ok (.iconst 0, 1) := by decide +kernel
theorem dX9_bears_135 : decode cX9_bears 135 = .ok (.invokevirtual 189, 3) := by decide +kernel
theorem dX9_bears_138 : decode cX9_bears 138 = .ok (.iload_n 1, 1) := by decide +kernel
theorem dX9_bears_139 : decode cX9_bears 139 = .ok (.if_icmp .ne 51, 3) := by decide +kernel
theorem dX9_bears_142 : decode cX9_bears 142 = .ok (.aload_n 0, 1) := by decide +kernel
theorem dX9_bears_143 : decode cX9_bears 143 = .ok (.iload 5, 2) := by decide +kernel
theorem dX9_bears_145 : decode cX9_bears 145 = .ok (.iconst 3, 1) := by decide +kernel
theorem dX9_bears_146 : decode cX9_bears 146 = .ok (.invokevirtual 189, 3) := by decide +kernel
theorem dX9_bears_149 : decode cX9_bears 149 = .ok (.ifCond .le 41, 3) := by decide +kernel
theorem dX9_bears_152 : decode cX9_bears 152 = .ok (.aload_n 0, 1) := by decide +kernel
theorem dX9_bears_153 : decode cX9_bears 153 = .ok (.iload 5, 2) := by decide +kernel
theorem dX9_bears_155 : decode cX9_bears 155 = .ok (.iconst 2, 1) := by decide +kernel
theorem dX9_bears_156 : decode cX9_bears 156 = .ok (.invokevirtual 189, 3) := by decide +kernel
theorem dX9_bears_159 : decode cX9_bears 159 = .ok (.iload_n 2, 1) := by decide +kernel
theorem dX9_bears_160 : decode cX9_bears 160 = .ok (.if_icmp .lt 30, 3) := by decide +kernel
theorem dX9_bears_163 : decode cX9_bears 163 = .ok (.iload 4, 2) := by decide +kernel
theorem dX9_bears_165 : decode cX9_bears 165 = .ok (.iconst (-1), 1) := by decide +kernel
theorem dX9_bears_166 : decode cX9_bears 166 = .ok (.if_icmp .eq 20, 3) := by decide +kernel
theorem dX9_bears_169 : decode cX9_bears 169 = .ok (.aload_n 0, 1) := by decide +kernel
theorem dX9_bears_170 : decode cX9_bears 170 = .ok (.iload 5, 2) := by decide +kernel
theorem dX9_bears_172 : decode cX9_bears 172 = .ok (.iconst 2, 1) := by decide +kernel
theorem dX9_bears_173 : decode cX9_bears 173 = .ok (.invokevirtual 189, 3) := by decide +kernel
theorem dX9_bears_176 : decode cX9_bears 176 = .ok (.aload_n 0, 1) := by decide +kernel
theorem dX9_bears_177 : decode cX9_bears 177 = .ok (.iload 4, 2) := by decide +kernel
theorem dX9_bears_179 : decode cX9_bears 179 = .ok (.iconst 2, 1) := by decide +kernel
theorem dX9_bears_180 : decode cX9_bears 180 = .ok (.invokevirtual 189, 3) := by decide +kernel
theorem dX9_bears_183 : decode cX9_bears 183 = .ok (.if_icmp .ge 7, 3) := by decide +kernel
theorem dX9_bears_186 : decode cX9_bears 186 = .ok (.iload 5, 2) := by decide +kernel
theorem dX9_bears_188 : decode cX9_bears 188 = .ok (.istore 4, 2) := by decide +kernel
theorem dX9_bears_190 : decode cX9_bears 190 = .ok (.iinc 5 1, 3) := by decide +kernel
theorem dX9_bears_193 : decode cX9_bears 193 = .ok (.goto (-73), 3) := by decide +kernel
theorem dX9_bears_196 : decode cX9_bears 196 = .ok (.iload 4, 2) := by decide +kernel
theorem dX9_bears_198 : decode cX9_bears 198 = .ok (.iconst (-1), 1) := by decide +kernel
theorem dX9_bears_199 : decode cX9_bears 199 = .ok (.if_icmp .ne 4, 3) := by decide +kernel
theorem dX9_bears_202 : decode cX9_bears 202 = .ok (.return_, 1) := by decide +kernel
theorem dX9_bears_203 : decode cX9_bears 203 = .ok (.aload_n 0, 1) := by decide +kernel
theorem dX9_bears_204 : decode cX9_bears 204 = .ok (.iload 4, 2) := by decide +kernel
theorem dX9_bears_206 : decode cX9_bears 206 = .ok (.iconst 3, 1) := by decide +kernel
theorem dX9_bears_207 : decode cX9_bears 207 = .ok (.invokevirtual 189, 3) := by decide +kernel
theorem dX9_bears_210 : decode cX9_bears 210 = .ok (.iload_n 3, 1) := by decide +kernel
theorem dX9_bears_211 : decode cX9_bears 211 = .ok (.if_icmp .ge 13, 3) := by decide +kernel
theorem dX9_bears_214 : decode cX9_bears 214 = .ok (.aload_n 0, 1) := by decide +kernel
theorem dX9_bears_215 : decode cX9_bears 215 = .ok (.iload 4, 2) := by decide +kernel
theorem dX9_bears_217 : decode cX9_bears 217 = .ok (.iconst 3, 1) := by decide +kernel
theorem dX9_bears_218 : decode cX9_bears 218 = .ok (.invokevirtual 189, 3) := by decide +kernel
theorem dX9_bears_221 : decode cX9_bears 221 = .ok (.goto 4, 3) := by decide +kernel
theorem dX9_bears_224 : decode cX9_bears 224 = .ok (.iload_n 3, 1) := by decide +kernel
theorem dX9_bears_225 : decode cX9_bears 225 = .ok (.istore 5, 2) := by decide +kernel
theorem dX9_bears_227 : decode cX9_bears 227 = .ok (.aload_n 0, 1) := by decide +kernel
theorem dX9_bears_228 : decode cX9_bears 228 = .ok (.getfield 74, 3) := by decide +kernel
theorem dX9_bears_231 : decode cX9_bears 231 = .ok (.sipush 395, 3) := by decide +kernel
theorem dX9_bears_234 : decode cX9_bears 234 = .ok (.iconst 4, 1) := by decide +kernel
theorem dX9_bears_235 : decode cX9_bears 235 = .ok (.iload 4, 2) := by decide +kernel
theorem dX9_bears_237 : decode cX9_bears 237 = .ok (.imul, 1) := by decide +kernel
theorem dX9_bears_238 : decode cX9_bears 238 = .ok (.iadd, 1) := by decide +kernel
theorem dX9_bears_239 : decode cX9_bears 239 = .ok (.iconst 3, 1) := by decide +kernel
theorem dX9_bears_240 : decode cX9_bears 240 = .ok (.iadd, 1) := by decide +kernel
theorem dX9_bears_241 : decode cX9_bears 241 = .ok (.dup2, 1) := by decide +kernel
theorem dX9_bears_242 : decode cX9_bears 242 = .ok (.iaload, 1) := by decide +kernel
theorem dX9_bears_243 : decode cX9_bears 243 = .ok (.iload 5, 2) := by decide +kernel
theorem dX9_bears_245 : decode cX9_bears 245 = .ok (.isub, 1) := by decide +kernel
theorem dX9_bears_246 : decode cX9_bears 246 = .ok (.iastore, 1) := by decide +kernel
theorem dX9_bears_247 : decode cX9_bears 247 = .ok (.iload_n 3, 1) := by decide +kernel
theorem dX9_bears_248 : decode cX9_bears 248 = .ok (.iload 5, 2) := by decide +kernel
theorem dX9_bears_250 : decode cX9_bears 250 = .ok (.isub, 1) := by decide +kernel
theorem dX9_bears_251 : decode cX9_bears 251 = .ok (.istore_n 3, 1) := by decide +kernel
theorem dX9_bears_252 : decode cX9_bears 252 = .ok (.goto (-148), 3) := by decide +kernel
theorem dX9_bears_255 : decode cX9_bears 255 = .ok (.return_, 1) := by decide +kernel
theorem dX9_closes_0 : decode cX9_closes 0 = .ok (.aload_n 0, 1) := by decide +kernel
theorem dX9_closes_1 : decode cX9_closes 1 = .ok (.getfield 74, 3) := by decide +kernel
theorem dX9_closes_4 : decode cX9_closes 4 = .ok (.iconst 0, 1) := by decide +kernel
theorem dX9_closes_5 : decode cX9_closes 5 = .ok (.iaload, 1) := by decide +kernel
theorem dX9_closes_6 : decode cX9_closes 6 = .ok (.istore_n 2, 1) := by decide +kernel
theorem dX9_closes_7 : decode cX9_closes 7 = .ok (.iload_n 1, 1) := by decide +kernel
theorem dX9_closes_8 : decode cX9_closes 8 = .ok (.iload_n 2, 1) := by decide +kernel
theorem dX9_closes_9 : decode cX9_closes 9 = .ok (.invokestatic 257, 3) := by decide +kernel
theorem dX9_closes_12 : decode cX9_closes 12 = .ok (.istore_n 3, 1) := by decide +kernel
theorem dX9_closes_13 : decode cX9_closes 13 = .ok (.iload_n 2, 1) := by decide +kernel
theorem dX9_closes_14 : decode cX9_closes 14 = .ok (.ifCond .ne 7, 3) := by decide +kernel
theorem dX9_closes_17 : decode cX9_closes 17 = .ok (.iconst 0, 1) := by decide +kernel
theorem dX9_closes_18 : decode cX9_closes 18 = .ok (.goto 26, 3) := by decide +kernel
theorem dX9_closes_21 : decode cX9_closes 21 = .ok (.aload_n 0, 1) := by decide +kernel
theorem dX9_closes_22 : decode cX9_closes 22 = .ok (.getfield 74, 3) := by decide +kernel
theorem dX9_closes_25 : decode cX9_closes 25 = .ok (.iload_n 3, 1) := by decide +kernel
theorem dX9_closes_26 : decode cX9_closes 26 = .ok (.bipush 6, 2) := by decide +kernel
theorem dX9_closes_28 : decode cX9_closes 28 = .ok (.isub, 1) := by decide +kernel
theorem dX9_closes_29 : decode cX9_closes 29 = .ok (.iconst 1, 1) := by decide +kernel
theorem dX9_closes_30 : decode cX9_closes 30 = .ok (.iadd, 1) := by decide +kernel
theorem dX9_closes_31 : decode cX9_closes 31 = .ok (.iaload, 1) := by decide +kernel
theorem dX9_closes_32 : decode cX9_closes 32 = .ok (.aload_n 0, 1) := by decide +kernel
theorem dX9_closes_33 : decode cX9_closes 33 = .ok (.getfield 74, 3) := by decide +kernel
theorem dX9_closes_36 : decode cX9_closes 36 = .ok (.iload_n 3, 1) := by decide +kernel
theorem dX9_closes_37 : decode cX9_closes 37 = .ok (.bipush 6, 2) := by decide +kernel
theorem dX9_closes_39 : decode cX9_closes 39 = .ok (.isub, 1) := by decide +kernel
theorem dX9_closes_40 : decode cX9_closes 40 = .ok (.iconst 0, 1) := by decide +kernel
theorem dX9_closes_41 : decode cX9_closes 41 = .ok (.iadd, 1) := by decide +kernel
theorem dX9_closes_42 : decode cX9_closes 42 = .ok (.iaload, 1) := by decide +kernel
theorem dX9_closes_43 : decode cX9_closes 43 = .ok (.isub, 1) := by decide +kernel
theorem dX9_closes_44 : decode cX9_closes 44 = .ok (.istore 4, 2) := by decide +kernel
theorem dX9_closes_46 : decode cX9_closes 46 = .ok (.iconst 0, 1) := by decide +kernel
theorem dX9_closes_47 : decode cX9_closes 47 = .ok (.istore 5, 2) := by decide +kernel
theorem dX9_closes_49 : decode cX9_closes 49 = .ok (.iload_n 2, 1) := by decide +kernel
theorem dX9_closes_50 : decode cX9_closes 50 = .ok (.istore 6, 2) := by decide +kernel
theorem dX9_closes_52 : decode cX9_closes 52 = .ok (.iload 6, 2) := by decide +kernel
theorem dX9_closes_54 : decode cX9_closes 54 = .ok (.bipush 40, 2) := by decide +kernel
theorem dX9_closes_56 : decode cX9_closes 56 = .ok (.if_icmp .ge 71, 3) := by decide +kernel
theorem dX9_closes_59 : decode cX9_closes 59 = .ok (.iload_n 2, 1) := by decide +kernel
theorem dX9_closes_60 : decode cX9_closes 60 = .ok (.ifCond .le 67, 3) := by decide +kernel
theorem dX9_closes_63 : decode cX9_closes 63 = .ok (.iload 5, 2) := by decide +kernel
theorem dX9_closes_65 : decode cX9_closes 65 = .ok (.aload_n 0, 1) := by decide +kernel
theorem dX9_closes_66 : decode cX9_closes 66 = .ok (.getfield 74, 3) := by decide +kernel
theorem dX9_closes_69 : decode cX9_closes 69 = .ok (.sipush 1275, 3) := by decide +kernel
theorem dX9_closes_72 : decode cX9_closes 72 = .ok (.bipush 40, 2) := by decide +kernel
theorem dX9_closes_74 : decode cX9_closes 74 = .ok (.iload_n 1, 1) := by decide +kernel
theorem dX9_closes_75 : decode cX9_closes 75 = .ok (.imul, 1) := by decide +kernel
theorem dX9_closes_76 : decode cX9_closes 76 = .ok (.iadd, 1) := by decide +kernel
theorem dX9_closes_77 : decode cX9_closes 77 = .ok (.iload 6, 2) := by decide +kernel
theorem dX9_closes_79 : decode cX9_closes 79 = .ok (.iadd, 1) := by decide +kernel
theorem dX9_closes_80 : decode cX9_closes 80 = .ok (.iaload, 1) := by decide +kernel
theorem dX9_closes_81 : decode cX9_closes 81 = .ok (.aload_n 0, 1) := by decide +kernel
theorem dX9_closes_82 : decode cX9_closes 82 = .ok (.iload_n 1, 1) := by decide +kernel
theorem dX9_closes_83 : decode cX9_closes 83 = .ok (.iload 6, 2) := by decide +kernel
theorem dX9_closes_85 : decode cX9_closes 85 = .ok (.invokevirtual 207, 3) := by decide +kernel
theorem dX9_closes_88 : decode cX9_closes 88 = .ok (.invokestatic 210, 3) := by decide +kernel
theorem dX9_closes_91 : decode cX9_closes 91 = .ok (.aload_n 0, 1) := by decide +kernel
theorem dX9_closes_92 : decode cX9_closes 92 = .ok (.getfield 74, 3) := by decide +kernel
theorem dX9_closes_95 : decode cX9_closes 95 = .ok (.sipush 1155, 3) := by decide +kernel
theorem dX9_closes_98 : decode cX9_closes 98 = .ok (.bipush 40, 2) := by decide +kernel
theorem dX9_closes_100 : decode cX9_closes 100 = .ok (.iload_n 1, 1) := by decide +kernel
theorem dX9_closes_101 : decode cX9_closes 101 = .ok (.imul, 1) := by decide +kernel
theorem dX9_closes_102 : decode cX9_closes 102 = .ok (.iadd, 1) := by decide +kernel
theorem dX9_closes_103 : decode cX9_closes 103 = .ok (.iload 6, 2) := by decide +kernel
theorem dX9_closes_105 : decode cX9_closes 105 = .ok (.iadd, 1) := by decide +kernel
theorem dX9_closes_106 : decode cX9_closes 106 = .ok (.iaload, 1) := by decide +kernel
theorem dX9_closes_107 : decode cX9_closes 107 = .ok (.aload_n 0, 1) := by decide +kernel
theorem dX9_closes_108 : decode cX9_closes 108 = .ok (.iload_n 1, 1) := by decide +kernel
theorem dX9_closes_109 : decode cX9_closes 109 = .ok (.iload 6, 2) := by decide +kernel
theorem dX9_closes_111 : decode cX9_closes 111 = .ok (.invokevirtual 207, 3) := by decide +kernel
theorem dX9_closes_114 : decode cX9_closes 114 = .ok (.invokestatic 210, 3) := by decide +kernel
theorem dX9_closes_117 : decode cX9_closes 117 = .ok (.isub, 1) := by decide +kernel
theorem dX9_closes_118 : decode cX9_closes 118 = .ok (.iadd, 1) := by decide +kernel
theorem dX9_closes_119 : decode cX9_closes 119 = .ok (.istore 5, 2) := by decide +kernel
theorem dX9_closes_121 : decode cX9_closes 121 = .ok (.iinc 6 1, 3) := by decide +kernel
theorem dX9_closes_124 : decode cX9_closes 124 = .ok (.goto (-72), 3) := by decide +kernel
theorem dX9_closes_127 : decode cX9_closes 127 = .ok (.aload_n 0, 1) := by decide +kernel
theorem dX9_closes_128 : decode cX9_closes 128 = .ok (.iload_n 1, 1) := by decide +kernel
theorem dX9_closes_129 : decode cX9_closes 129 = .ok (.iconst (-1), 1) := by decide +kernel
theorem dX9_closes_130 : decode cX9_closes 130 = .ok (.iconst 0, 1) := by decide +kernel
theorem dX9_closes_131 : decode cX9_closes 131 = .ok (.invokevirtual 219, 3) := by decide +kernel
theorem dX9_closes_134 : decode cX9_closes 134 = .ok (.aload_n 0, 1) := by decide +kernel
theorem dX9_closes_135 : decode cX9_closes 135 = .ok (.getfield 74, 3) := by decide +kernel
theorem dX9_closes_138 : decode cX9_closes 138 = .ok (.iload_n 3, 1) := by decide +kernel
theorem dX9_closes_139 : decode cX9_closes 139 = .ok (.iconst 0, 1) := by decide +kernel
theorem dX9_closes_140 : decode cX9_closes 140 = .ok (.iadd, 1) := by decide +kernel
theorem dX9_closes_141 : decode cX9_closes 141 = .ok (.aload_n 0, 1) := by decide +kernel
theorem dX9_closes_142 : decode cX9_closes 142 = .ok (.iload_n 1, 1) := by decide +kernel
theorem dX9_closes_143 : decode cX9_closes 143 = .ok (.invokevirtual 223, 3) := by decide +kernel
theorem dX9_closes_146 : decode cX9_closes 146 = .ok (.iastore, 1) := by decide +kernel
theorem dX9_closes_147 : decode cX9_closes 147 = .ok (.aload_n 0, 1) := by decide +kernel
theorem dX9_closes_148 : decode cX9_closes 148 = .ok (.getfield 74, 3) := by decide +kernel
theorem dX9_closes_151 : decode cX9_closes 151 = .ok (.iload_n 3, 1) := by decide +kernel
theorem dX9_closes_152 : decode cX9_closes 152 = .ok (.iconst 1, 1) := by decide +kernel
theorem dX9_closes_153 : decode cX9_closes 153 = .ok (.iadd, 1) := by decide +kernel
theorem dX9_closes_154 : decode cX9_closes 154 = .ok (.aload_n 0, 1) := by decide +kernel
theorem dX9_closes_155 : decode cX9_closes 155 = .ok (.iload_n 1, 1) := by decide +kernel
theorem dX9_closes_156 : decode cX9_closes 156 = .ok (.invokevirtual 226, 3) := by decide +kernel
theorem dX9_closes_159 : decode cX9_closes 159 = .ok (.iastore, 1) := by decide +kernel
theorem dX9_closes_160 : decode cX9_closes 160 = .ok (.aload_n 0, 1) := by decide +kernel
theorem dX9_closes_161 : decode cX9_closes 161 = .ok (.getfield 74, 3) := by decide +kernel
theorem dX9_closes_164 : decode cX9_closes 164 = .ok (.iload_n 3, 1) := by decide +kernel
theorem dX9_closes_165 : decode cX9_closes 165 = .ok (.iconst 2, 1) := by decide +kernel
theorem dX9_closes_166 : decode cX9_closes 166 = .ok (.iadd, 1) := by decide +kernel
theorem dX9_closes_167 : decode cX9_closes 167 = .ok (.aload_n 0, 1) := by decide +kernel
theorem dX9_closes_168 : decode cX9_closes 168 = .ok (.iload_n 1, 1) := by decide +kernel
theorem dX9_closes_169 : decode cX9_closes 169 = .ok (.invokevirtual 229, 3) := by decide +kernel
theorem dX9_closes_172 : decode cX9_closes 172 = .ok (.iastore, 1) := by decide +kernel
theorem dX9_closes_173 : decode cX9_closes 173 = .ok (.aload_n 0, 1) := by decide +kernel
theorem dX9_closes_174 : decode cX9_closes 174 = .ok (.getfield 74, 3) := by decide +kernel
theorem dX9_closes_177 : decode cX9_closes 177 = .ok (.iload_n 3, 1) := by decide +kernel
theorem dX9_closes_178 : decode cX9_closes 178 = .ok (.iconst 3, 1) := by decide +kernel
theorem dX9_closes_179 : decode cX9_closes 179 = .ok (.iadd, 1) := by decide +kernel
theorem dX9_closes_180 : decode cX9_closes 180 = .ok (.aload_n 0, 1) := by decide +kernel
theorem dX9_closes_181 : decode cX9_closes 181 = .ok (.getfield 74, 3) := by decide +kernel
theorem dX9_closes_184 : decode cX9_closes 184 = .ok (.iload_n 3, 1) := by decide +kernel
theorem dX9_closes_185 : decode cX9_closes 185 = .ok (.iconst 1, 1) := by decide +kernel
theorem dX9_closes_186 : decode cX9_closes 186 = .ok (.iadd, 1) := by decide +kernel
theorem dX9_closes_187 : decode cX9_closes 187 = .ok (.iaload, 1) := by decide +kernel
theorem dX9_closes_188 : decode cX9_closes 188 = .ok (.aload_n 0, 1) := by decide +kernel
theorem dX9_closes_189 : decode cX9_closes 189 = .ok (.getfield 74, 3) := by decide +kernel
theorem dX9_closes_192 : decode cX9_closes 192 = .ok (.iload_n 3, 1) := by decide +kernel
theorem dX9_closes_193 : decode cX9_closes 193 = .ok (.iconst 0, 1) := by decide +kernel
theorem dX9_closes_194 : decode cX9_closes 194 = .ok (.iadd, 1) := by decide +kernel
theorem dX9_closes_195 : decode cX9_closes 195 = .ok (.iaload, 1) := by decide +kernel
theorem dX9_closes_196 : decode cX9_closes 196 = .ok (.isub, 1) := by decide +kernel
theorem dX9_closes_197 : decode cX9_closes 197 = .ok (.iload 4, 2) := by decide +kernel
theorem dX9_closes_199 : decode cX9_closes 199 = .ok (.isub, 1) := by decide +kernel
theorem dX9_closes_200 : decode cX9_closes 200 = .ok (.iastore, 1) := by decide +kernel
theorem dX9_closes_201 : decode cX9_closes 201 = .ok (.aload_n 0, 1) := by decide +kernel
theorem dX9_closes_202 : decode cX9_closes 202 = .ok (.getfield 74, 3) := by decide +kernel
theorem dX9_closes_205 : decode cX9_closes 205 = .ok (.iload_n 3, 1) := by decide +kernel
theorem dX9_closes_206 : decode cX9_closes 206 = .ok (.iconst 4, 1) := by decide +kernel
theorem dX9_closes_207 : decode cX9_closes 207 = .ok (.iadd, 1) := by decide +kernel
theorem dX9_closes_208 : decode cX9_closes 208 = .ok (.iload_n 2, 1) := by decide +kernel
theorem dX9_closes_209 : decode cX9_closes 209 = .ok (.ifCond .ne 7, 3) := by decide +kernel
theorem dX9_closes_212 : decode cX9_closes 212 = .ok (.iconst 0, 1) := by decide +kernel
theorem dX9_closes_213 : decode cX9_closes 213 = .ok (.goto 8, 3) := by decide +kernel
theorem dX9_closes_216 : decode cX9_closes 216 = .ok (.iload 5, 2) := by decide +kernel
theorem dX9_closes_218 : decode cX9_closes 218 = .ok (.iload 4, 2) := by decide +kernel
theorem dX9_closes_220 : decode cX9_closes 220 = .ok (.isub, 1) := by decide +kernel
theorem dX9_closes_221 : decode cX9_closes 221 = .ok (.iastore, 1) := by decide +kernel
theorem dX9_closes_222 : decode cX9_closes 222 = .ok (.iload_n 2, 1) := by decide +kernel
theorem dX9_closes_223 : decode cX9_closes 223 = .ok (.iconst 1, 1) := by decide +kernel
theorem dX9_closes_224 : decode cX9_closes 224 = .ok (.iadd, 1) := by decide +kernel
theorem dX9_closes_225 : decode cX9_closes 225 = .ok (.istore 6, 2) := by decide +kernel
theorem dX9_closes_227 : decode cX9_closes 227 = .ok (.iload 6, 2) := by decide +kernel
theorem dX9_closes_229 : decode cX9_closes 229 = .ok (.bipush 40, 2) := by decide +kernel
theorem dX9_closes_231 : decode cX9_closes 231 = .ok (.if_icmp .ge 54, 3) := by decide +kernel
theorem dX9_closes_234 : decode cX9_closes 234 = .ok (.aload_n 0, 1) := by decide +kernel
theorem dX9_closes_235 : decode cX9_closes 235 = .ok (.getfield 74, 3) := by decide +kernel
theorem dX9_closes_238 : decode cX9_closes 238 = .ok (.sipush 1155, 3) := by decide +kernel
theorem dX9_closes_241 : decode cX9_closes 241 = .ok (.bipush 40, 2) := by decide +kernel
theorem dX9_closes_243 : decode cX9_closes 243 = .ok (.iload_n 1, 1) := by decide +kernel
theorem dX9_closes_244 : decode cX9_closes 244 = .ok (.imul, 1) := by decide +kernel
theorem dX9_closes_245 : decode cX9_closes 245 = .ok (.iadd, 1) := by decide +kernel
theorem dX9_closes_246 : decode cX9_closes 246 = .ok (.iload 6, 2) := by decide +kernel
theorem dX9_closes_248 : decode cX9_closes 248 = .ok (.iadd, 1) := by decide +kernel
theorem dX9_closes_249 : decode cX9_closes 249 = .ok (.aload_n 0, 1) := by decide +kernel
theorem dX9_closes_250 : decode cX9_closes 250 = .ok (.getfield 89, 3) := by decide +kernel
theorem dX9_closes_253 : decode cX9_closes 253 = .ok (.iload 6, 2) := by decide +kernel
theorem dX9_closes_255 : decode cX9_closes 255 = .ok (.iaload, 1) := by decide +kernel
theorem dX9_closes_256 : decode cX9_closes 256 = .ok (.iastore, 1) := by decide +kernel
theorem dX9_closes_257 : decode cX9_closes 257 = .ok (.aload_n 0, 1) := by decide +kernel
theorem dX9_closes_258 : decode cX9_closes 258 = .ok (.getfield 74, 3) := by decide +kernel
theorem dX9_closes_261 : decode cX9_closes 261 = .ok (.sipush 1275, 3) := by decide +kernel
theorem dX9_closes_264 : decode cX9_closes 264 = .ok (.bipush 40, 2) := by decide +kernel
theorem dX9_closes_266 : decode cX9_closes 266 = .ok (.iload_n 1, 1) := by decide +kernel
theorem dX9_closes_267 : decode cX9_closes 267 = .ok (.imul, 1) := by decide +kernel
theorem dX9_closes_268 : decode cX9_closes 268 = .ok (.iadd, 1) := by decide +kernel
theorem dX9_closes_269 : decode cX9_closes 269 = .ok (.iload 6, 2) := by decide +kernel
theorem dX9_closes_271 : decode cX9_closes 271 = .ok (.iadd, 1) := by decide +kernel
theorem dX9_closes_272 : decode cX9_closes 272 = .ok (.aload_n 0, 1) := by decide +kernel
theorem dX9_closes_273 : decode cX9_closes 273 = .ok (.iload 6, 2) := by decide +kernel
theorem dX9_closes_275 : decode cX9_closes 275 = .ok (.invokevirtual 213, 3) := by decide +kernel
theorem dX9_closes_278 : decode cX9_closes 278 = .ok (.iastore, 1) := by decide +kernel
theorem dX9_closes_279 : decode cX9_closes 279 = .ok (.iinc 6 1, 3) := by decide +kernel
theorem dX9_closes_282 : decode cX9_closes 282 = .ok (.goto (-55), 3) := by decide +kernel
theorem dX9_closes_285 : decode cX9_closes 285 = .ok (.return_, 1) := by decide +kernel
theorem dX9_yearEnd_0 : decode cX9_yearEnd 0 = .ok (.aload_n 0, 1) := by decide +kernel
theorem dX9_yearEnd_1 : decode cX9_yearEnd 1 = .ok (.iconst 0, 1) := by decide +kernel
theorem dX9_yearEnd_2 : decode cX9_yearEnd 2 = .ok (.putfield 1, 3) := by decide +kernel
theorem dX9_yearEnd_5 : decode cX9_yearEnd 5 = .ok (.aload_n 0, 1) := by decide +kernel
theorem dX9_yearEnd_6 : decode cX9_yearEnd 6 = .ok (.getfield 74, 3) := by decide +kernel
theorem dX9_yearEnd_9 : decode cX9_yearEnd 9 = .ok (.iconst 0, 1) := by decide +kernel
theorem dX9_yearEnd_10 : decode cX9_yearEnd 10 = .ok (.iaload, 1) := by decide +kernel
theorem dX9_yearEnd_11 : decode cX9_yearEnd 11 = .ok (.bipush 39, 2) := by decide +kernel
theorem dX9_yearEnd_13 : decode cX9_yearEnd 13 = .ok (.if_icmp .ne 5, 3) := by decide +kernel
theorem dX9_yearEnd_16 : decode cX9_yearEnd 16 = .ok (.iconst (-1), 1) := by decide +kernel
theorem dX9_yearEnd_17 : decode cX9_yearEnd 17 = .ok (.ireturn, 1) := by decide +kernel
theorem dX9_yearEnd_18 : decode cX9_yearEnd 18 = .ok (.aload_n 0, 1) := by decide +kernel
theorem dX9_yearEnd_19 : decode cX9_yearEnd 19 = .ok (.invokevirtual 266, 3) := by decide +kernel
theorem dX9_yearEnd_22 : decode cX9_yearEnd 22 = .ok (.iconst 0, 1) := by decide +kernel
theorem dX9_yearEnd_23 : decode cX9_yearEnd 23 = .ok (.istore_n 1, 1) := by decide +kernel
theorem dX9_yearEnd_24 : decode cX9_yearEnd 24 = .ok (.iload_n 1, 1) := by decide +kernel
theorem dX9_yearEnd_25 : decode cX9_yearEnd 25 = .ok (.aload_n 0, 1) := by decide +kernel
theorem dX9_yearEnd_26 : decode cX9_yearEnd 26 = .ok (.getfield 74, 3) := by decide +kernel
theorem dX9_yearEnd_29 : decode cX9_yearEnd 29 = .ok (.iconst 2, 1) := by decide +kernel
theorem dX9_yearEnd_30 : decode cX9_yearEnd 30 = .ok (.iaload, 1) := by decide +kernel
theorem dX9_yearEnd_31 : decode cX9_yearEnd 31 = .ok (.if_icmp .ge 14, 3) := by decide +kernel
theorem dX9_yearEnd_34 : decode cX9_yearEnd 34 = .ok (.aload_n 0, 1) := by decide +kernel
theorem dX9_yearEnd_35 : decode cX9_yearEnd 35 = .ok (.iload_n 1, 1) := by decide +kernel
theorem dX9_yearEnd_36 : decode cX9_yearEnd 36 = .ok (.invokevirtual 272, 3) := by decide +kernel
theorem dX9_yearEnd_39 : decode cX9_yearEnd 39 = .ok (.iinc 1 1, 3) := by decide +kernel
theorem dX9_yearEnd_42 : decode cX9_yearEnd 42 = .ok (.goto (-18), 3) := by decide +kernel
theorem dX9_yearEnd_45 : decode cX9_yearEnd 45 = .ok (.iconst 0, 1) := by decide +kernel
theorem dX9_yearEnd_46 : decode cX9_yearEnd 46 = .ok (.istore_n 1, 1) := by decide +kernel
theorem dX9_yearEnd_47 : decode cX9_yearEnd 47 = .ok (.iload_n 1, 1) := by decide +kernel
theorem dX9_yearEnd_48 : decode cX9_yearEnd 48 = .ok (.aload_n 0, 1) := by decide +kernel
theorem dX9_yearEnd_49 : decode cX9_yearEnd 49 = .ok (.getfield 74, 3) := by decide +kernel
theorem dX9_yearEnd_52 : decode cX9_yearEnd 52 = .ok (.iconst 2, 1) := by decide +kernel
theorem dX9_yearEnd_53 : decode cX9_yearEnd 53 = .ok (.iaload, 1) := by decide +kernel
theorem dX9_yearEnd_54 : decode cX9_yearEnd 54 = .ok (.if_icmp .ge 14, 3) := by decide +kernel
theorem dX9_yearEnd_57 : decode cX9_yearEnd 57 = .ok (.aload_n 0, 1) := by decide +kernel
theorem dX9_yearEnd_58 : decode cX9_yearEnd 58 = .ok (.iload_n 1, 1) := by decide +kernel
theorem dX9_yearEnd_59 : decode cX9_yearEnd 59 = .ok (.invokevirtual 275, 3) := by decide +kernel
theorem dX9_yearEnd_62 : decode cX9_yearEnd 62 = .ok (.iinc 1 1, 3) := by decide +kernel
theorem dX9_yearEnd_65 : decode cX9_yearEnd 65 = .ok (.goto (-18), 3) := by decide +kernel
theorem dX9_yearEnd_68 : decode cX9_yearEnd 68 = .ok (.aload_n 0, 1) := by decide +kernel
theorem dX9_yearEnd_69 : decode cX9_yearEnd 69 = .ok (.getfield 74, 3) := by decide +kernel
theorem dX9_yearEnd_72 : decode cX9_yearEnd 72 = .ok (.iconst 0, 1) := by decide +kernel
theorem dX9_yearEnd_73 : decode cX9_yearEnd 73 = .ok (.dup2, 1) := by decide +kernel
theorem dX9_yearEnd_74 : decode cX9_yearEnd 74 = .ok (.iaload, 1) := by decide +kernel
theorem dX9_yearEnd_75 : decode cX9_yearEnd 75 = .ok (.iconst 1, 1) := by decide +kernel
theorem dX9_yearEnd_76 : decode cX9_yearEnd 76 = .ok (.iadd, 1) := by decide +kernel
theorem dX9_yearEnd_77 : decode cX9_yearEnd 77 = .ok (.iastore, 1) := by decide +kernel
theorem dX9_yearEnd_78 : decode cX9_yearEnd 78 = .ok (.aload_n 0, 1) := by decide +kernel
theorem dX9_yearEnd_79 : decode cX9_yearEnd 79 = .ok (.getfield 74, 3) := by decide +kernel
theorem dX9_yearEnd_82 : decode cX9_yearEnd 82 = .ok (.iconst 0, 1) := by decide +kernel
theorem dX9_yearEnd_83 : decode cX9_yearEnd 83 = .ok (.iaload, 1) := by decide +kernel
theorem dX9_yearEnd_84 : decode cX9_yearEnd 84 = .ok (.ireturn, 1) := by decide +kernel
theorem dX9_undo_0 : decode cX9_undo 0 = .ok (.aload_n 0, 1) := by decide +kernel
theorem dX9_undo_1 : decode cX9_undo 1 = .ok (.iconst 0, 1) := by decide +kernel
theorem dX9_undo_2 : decode cX9_undo 2 = .ok (.putfield 1, 3) := by decide +kernel
theorem dX9_undo_5 : decode cX9_undo 5 = .ok (.aload_n 0, 1) := by decide +kernel
theorem dX9_undo_6 : decode cX9_undo 6 = .ok (.getfield 171, 3) := by decide +kernel
theorem dX9_undo_9 : decode cX9_undo 9 = .ok (.ifCond .ne 5, 3) := by decide +kernel
theorem dX9_undo_12 : decode cX9_undo 12 = .ok (.iconst (-1), 1) := by decide +kernel
theorem dX9_undo_13 : decode cX9_undo 13 = .ok (.ireturn, 1) := by decide +kernel
theorem dX9_undo_14 : decode cX9_undo 14 = .ok (.aload_n 0, 1) := by decide +kernel
theorem dX9_undo_15 : decode cX9_undo 15 = .ok (.dup, 1) := by decide +kernel
theorem dX9_undo_16 : decode cX9_undo 16 = .ok (.getfield 171, 3) := by decide +kernel
theorem dX9_undo_19 : decode cX9_undo 19 = .ok (.iconst 1, 1) := by decide +kernel
theorem dX9_undo_20 : decode cX9_undo 20 = .ok (.isub, 1) := by decide +kernel
theorem dX9_undo_21 : decode cX9_undo 21 = .ok (.putfield 171, 3) := by decide +kernel
theorem dX9_undo_24 : decode cX9_undo 24 = .ok (.iconst 0, 1) := by decide +kernel
theorem dX9_undo_25 : decode cX9_undo 25 = .ok (.istore_n 1, 1) := by decide +kernel
theorem dX9_undo_26 : decode cX9_undo 26 = .ok (.iload_n 1, 1) := by decide +kernel
theorem dX9_undo_27 : decode cX9_undo 27 = .ok (.sipush 1395, 3) := by decide +kernel
theorem dX9_undo_30 : decode cX9_undo 30 = .ok (.if_icmp .ge 30, 3) := by decide +kernel
theorem dX9_undo_33 : decode cX9_undo 33 = .ok (.aload_n 0, 1) := by decide +kernel
theorem dX9_undo_34 : decode cX9_undo 34 = .ok (.getfield 74, 3) := by decide +kernel
theorem dX9_undo_37 : decode cX9_undo 37 = .ok (.iload_n 1, 1) := by decide +kernel
theorem dX9_undo_38 : decode cX9_undo 38 = .ok (.aload_n 0, 1) := by decide +kernel
theorem dX9_undo_39 : decode cX9_undo 39 = .ok (.getfield 80, 3) := by decide +kernel
theorem dX9_undo_42 : decode cX9_undo 42 = .ok (.sipush 1395, 3) := by decide +kernel
theorem dX9_undo_45 : decode cX9_undo 45 = .ok (.aload_n 0, 1) := by decide +kernel
theorem dX9_undo_46 : decode cX9_undo 46 = .ok (.getfield 171, 3) := by decide +kernel
theorem dX9_undo_49 : decode cX9_undo 49 = .ok (.imul, 1) := by decide +kernel
theorem dX9_undo_50 : decode cX9_undo 50 = .ok (.iload_n 1, 1) := by decide +kernel
theorem dX9_undo_51 : decode cX9_undo 51 = .ok (.iadd, 1) := by decide +kernel
theorem dX9_undo_52 : decode cX9_undo 52 = .ok (.iaload, 1) := by decide +kernel
theorem dX9_undo_53 : decode cX9_undo 53 = .ok (.iastore, 1) := by decide +kernel
theorem dX9_undo_54 : decode cX9_undo 54 = .ok (.iinc 1 1, 3) := by decide +kernel
theorem dX9_undo_57 : decode cX9_undo 57 = .ok (.goto (-31), 3) := by decide +kernel
theorem dX9_undo_60 : decode cX9_undo 60 = .ok (.aload_n 0, 1) := by decide +kernel
theorem dX9_undo_61 : decode cX9_undo 61 = .ok (.getfield 171, 3) := by decide +kernel
theorem dX9_undo_64 : decode cX9_undo 64 = .ok (.ireturn, 1) := by decide +kernel
theorem dJx29ce0_ordinal_8abf5_0 : decode cJx29ce0_ordinal_8abf5 0 = .ok (.aload_n 0, 1) := by decide +kernel
theorem dJx29ce0_ordinal_8abf5_1 : decode cJx29ce0_ordinal_8abf5 1 = .ok (.getfield 7, 3) := by decide +kernel
theorem dJx29ce0_ordinal_8abf5_4 : decode cJx29ce0_ordinal_8abf5 4 = .ok (.ireturn, 1) := by decide +kernel
theorem dJ9_min_7cf53_0 : decode cJ9_min_7cf53 0 = .ok (.iload_n 0, 1) := by decide +kernel
theorem dJ9_min_7cf53_1 : decode cJ9_min_7cf53 1 = .ok (.iload_n 1, 1) := by decide +kernel
theorem dJ9_min_7cf53_2 : decode cJ9_min_7cf53 2 = .ok (.if_icmp .gt 7, 3) := by decide +kernel
theorem dJ9_min_7cf53_5 : decode cJ9_min_7cf53 5 = .ok (.iload_n 0, 1) := by decide +kernel
theorem dJ9_min_7cf53_6 : decode cJ9_min_7cf53 6 = .ok (.goto 4, 3) := by decide +kernel
theorem dJ9_min_7cf53_9 : decode cJ9_min_7cf53 9 = .ok (.iload_n 1, 1) := by decide +kernel
theorem dJ9_min_7cf53_10 : decode cJ9_min_7cf53 10 = .ok (.ireturn, 1) := by decide +kernel
theorem dJ0_length_8abf5_0 : decode cJ0_length_8abf5 0 = .ok (.aload_n 0, 1) := by decide +kernel
theorem dJ0_length_8abf5_1 : decode cJ0_length_8abf5 1 = .ok (.getfield 9, 3) := by decide +kernel
theorem dJ0_length_8abf5_4 : decode cJ0_length_8abf5 4 = .ok (.arraylength, 1) := by decide +kernel
theorem dJ0_length_8abf5_5 : decode cJ0_length_8abf5 5 = .ok (.aload_n 0, 1) := by decide +kernel
theorem dJ0_length_8abf5_6 : decode cJ0_length_8abf5 6 = .ok (.invokevirtual 335, 3) := by decide +kernel
theorem dJ0_length_8abf5_9 : decode cJ0_length_8abf5 9 = .ok (.ishr, 1) := by decide +kernel
theorem dJ0_length_8abf5_10 : decode cJ0_length_8abf5 10 = .ok (.ireturn, 1) := by decide +kernel
theorem dJ0_charAt_5068e_0 : decode cJ0_charAt_5068e 0 = .ok (.aload_n 0, 1) := by decide +kernel
theorem dJ0_charAt_5068e_1 : decode cJ0_charAt_5068e 1 = .ok (.invokevirtual 492, 3) := by decide +kernel
theorem dJ0_charAt_5068e_4 : decode cJ0_charAt_5068e 4 = .ok (.ifCond .eq 12, 3) := by decide +kernel
theorem dJ0_charAt_5068e_7 : decode cJ0_charAt_5068e 7 = .ok (.aload_n 0, 1) := by decide +kernel
theorem dJ0_charAt_5068e_8 : decode cJ0_charAt_5068e 8 = .ok (.getfield 9, 3) := by decide +kernel
theorem dJ0_charAt_5068e_11 : decode cJ0_charAt_5068e 11 = .ok (.iload_n 1, 1) := by decide +kernel
theorem dJ0_charAt_5068e_12 : decode cJ0_charAt_5068e 12 = .ok (.invokestatic 495, 3) := by decide +kernel
theorem dJ0_charAt_5068e_15 : decode cJ0_charAt_5068e 15 = .ok (.ireturn, 1) := by decide +kernel
theorem dJ0_charAt_5068e_16 : decode cJ0_charAt_5068e 16 = .ok (.aload_n 0, 1) := by decide +kernel
theorem dJ0_charAt_5068e_17 : decode cJ0_charAt_5068e 17 = .ok (.getfield 9, 3) := by decide +kernel
theorem dJ0_charAt_5068e_20 : decode cJ0_charAt_5068e 20 = .ok (.iload_n 1, 1) := by decide +kernel
theorem dJ0_charAt_5068e_21 : decode cJ0_charAt_5068e 21 = .ok (.invokestatic 498, 3) := by decide +kernel
theorem dJ0_charAt_5068e_24 : decode cJ0_charAt_5068e 24 = .ok (.ireturn, 1) := by decide +kernel
theorem dJ0_coder_7d493_0 : decode cJ0_coder_7d493 0 = .ok (.getstatic 38, 3) := by decide +kernel
theorem dJ0_coder_7d493_3 : decode cJ0_coder_7d493 3 = .ok (.ifCond .eq 10, 3) := by decide +kernel
theorem dJ0_coder_7d493_6 : decode cJ0_coder_7d493 6 = .ok (.aload_n 0, 1) := by decide +kernel
theorem dJ0_coder_7d493_7 : decode cJ0_coder_7d493 7 = .ok (.getfield 15, 3) := by decide +kernel
theorem dJ0_coder_7d493_10 : decode cJ0_coder_7d493 10 = .ok (.goto 4, 3) := by decide +kernel
theorem dJ0_coder_7d493_13 : decode cJ0_coder_7d493 13 = .ok (.iconst 1, 1) := by decide +kernel
theorem dJ0_coder_7d493_14 : decode cJ0_coder_7d493 14 = .ok (.ireturn, 1) := by decide +kernel
theorem dJ0_isLatin1_aae02_0 : decode cJ0_isLatin1_aae02 0 = .ok (.getstatic 38, 3) := by decide +kernel
theorem dJ0_isLatin1_aae02_3 : decode cJ0_isLatin1_aae02 3 = .ok (.ifCond .eq 14, 3) := by decide +kernel
theorem dJ0_isLatin1_aae02_6 : decode cJ0_isLatin1_aae02 6 = .ok (.aload_n 0, 1) := by decide +kernel
theorem dJ0_isLatin1_aae02_7 : decode cJ0_isLatin1_aae02 7 = .ok (.getfield 15, 3) := by decide +kernel
theorem dJ0_isLatin1_aae02_10 : decode cJ0_isLatin1_aae02 10 = .ok (.ifCond .ne 7, 3) := by decide +kernel
theorem dJ0_isLatin1_aae02_13 : decode cJ0_isLatin1_aae02 13 = .ok (.iconst 1, 1) := by decide +kernel
theorem dJ0_isLatin1_aae02_14 : decode cJ0_isLatin1_aae02 14 = .ok (.goto 4, 3) := by decide +kernel
theorem dJ0_isLatin1_aae02_17 : decode cJ0_isLatin1_aae02 17 = .ok (.iconst 0, 1) := by decide +kernel
theorem dJ0_isLatin1_aae02_18 : decode cJ0_isLatin1_aae02 18 = .ok (.ireturn, 1) := by decide +kernel
theorem dJ0_checkIndex_df160_0 : decode cJ0_checkIndex_df160 0 = .ok (.iload_n 0, 1) := by decide +kernel
theorem dJ0_checkIndex_df160_1 : decode cJ0_checkIndex_df160 1 = .ok (.iload_n 1, 1) := by decide +kernel
theorem dJ0_checkIndex_df160_2 : decode cJ0_checkIndex_df160 2 = .ok (.getstatic 1053, 3) := by decide +kernel
theorem dJ0_checkIndex_df160_5 : decode cJ0_checkIndex_df160 5 = .ok (.invokestatic 1059, 3) := by decide +kernel
theorem dJ0_checkIndex_df160_8 : decode cJ0_checkIndex_df160 8 = .ok (.pop, 1) := by decide +kernel
theorem dJ0_checkIndex_df160_9 : decode cJ0_checkIndex_df160 9 = .ok (.return_, 1) := by decide +kernel
theorem dJ1_charAt_3b067_0 : decode cJ1_charAt_3b067 0 = .ok (.iload_n 1, 1) := by decide +kernel
theorem dJ1_charAt_3b067_1 : decode cJ1_charAt_3b067 1 = .ok (.aload_n 0, 1) := by decide +kernel
theorem dJ1_charAt_3b067_2 : decode cJ1_charAt_3b067 2 = .ok (.arraylength, 1) := by decide +kernel
theorem dJ1_charAt_3b067_3 : decode cJ1_charAt_3b067 3 = .ok (.invokestatic 9, 3) := by decide +kernel
theorem dJ1_charAt_3b067_6 : decode cJ1_charAt_3b067 6 = .ok (.aload_n 0, 1) := by decide +kernel
theorem dJ1_charAt_3b067_7 : decode cJ1_charAt_3b067 7 = .ok (.iload_n 1, 1) := by decide +kernel
theorem dJ1_charAt_3b067_8 : decode cJ1_charAt_3b067 8 = .ok (.baload, 1) := by decide +kernel
theorem dJ1_charAt_3b067_9 : decode cJ1_charAt_3b067 9 = .ok (.sipush 255, 3) := by decide +kernel
theorem dJ1_charAt_3b067_12 : decode cJ1_charAt_3b067 12 = .ok (.iand, 1) := by decide +kernel
theorem dJ1_charAt_3b067_13 : decode cJ1_charAt_3b067 13 = .ok (.i2c, 1) := by decide +kernel
theorem dJ1_charAt_3b067_14 : decode cJ1_charAt_3b067 14 = .ok (.ireturn, 1) := by decide +kernel
theorem dJ3_checkIndex_8e157_0 : decode cJ3_checkIndex_8e157 0 = .ok (.iload_n 0, 1) := by decide +kernel
theorem dJ3_checkIndex_8e157_1 : decode cJ3_checkIndex_8e157 1 = .ok (.ifCond .lt 8, 3) := by decide +kernel
theorem dJ3_checkIndex_8e157_4 : decode cJ3_checkIndex_8e157 4 = .ok (.iload_n 0, 1) := by decide +kernel
theorem dJ3_checkIndex_8e157_5 : decode cJ3_checkIndex_8e157 5 = .ok (.iload_n 1, 1) := by decide +kernel
theorem dJ3_checkIndex_8e157_6 : decode cJ3_checkIndex_8e157 6 = .ok (.if_icmp .lt 10, 3) := by decide +kernel
theorem dJ3_checkIndex_8e157_9 : decode cJ3_checkIndex_8e157 9 = .ok (.aload_n 2, 1) := by decide +kernel
theorem dJ3_checkIndex_8e157_10 : decode cJ3_checkIndex_8e157 10 = .ok (.iload_n 0, 1) := by decide +kernel
theorem dJ3_checkIndex_8e157_11 : decode cJ3_checkIndex_8e157 11 = .ok (.iload_n 1, 1) := by decide +kernel
theorem dJ3_checkIndex_8e157_12 : decode cJ3_checkIndex_8e157 12 = .ok (.invokestatic 95, 3) := by decide +kernel
theorem dJ3_checkIndex_8e157_15 : decode cJ3_checkIndex_8e157 15 = .ok (.athrow, 1) := by decide +kernel
theorem dJ3_checkIndex_8e157_16 : decode cJ3_checkIndex_8e157 16 = .ok (.iload_n 0, 1) := by decide +kernel
theorem dJ3_checkIndex_8e157_17 : decode cJ3_checkIndex_8e157 17 = .ok (.ireturn, 1) := by decide +kernel
theorem dL_item_0 : decode cL_item 0 = .ok (.aload_n 3, 1) := by decide +kernel
theorem dL_item_1 : decode cL_item 1 = .ok (.iconst 0, 1) := by decide +kernel
theorem dL_item_2 : decode cL_item 2 = .ok (.aload_n 0, 1) := by decide +kernel
theorem dL_item_3 : decode cL_item 3 = .ok (.iload_n 1, 1) := by decide +kernel
theorem dL_item_4 : decode cL_item 4 = .ok (.iload_n 2, 1) := by decide +kernel
theorem dL_item_5 : decode cL_item 5 = .ok (.invokevirtual 7, 3) := by decide +kernel
theorem dL_item_8 : decode cL_item 8 = .ok (.i2l, 1) := by decide +kernel
theorem dL_item_9 : decode cL_item 9 = .ok (.lastore, 1) := by decide +kernel
theorem dL_item_10 : decode cL_item 10 = .ok (.goto 7, 3) := by decide +kernel
theorem dL_item_13 : decode cL_item 13 = .ok (.astore 4, 2) := by decide +kernel
theorem dL_item_15 : decode cL_item 15 = .ok (.iconst 1, 1) := by decide +kernel
theorem dL_item_16 : decode cL_item 16 = .ok (.ireturn, 1) := by decide +kernel
theorem dL_item_17 : decode cL_item 17 = .ok (.iconst 0, 1) := by decide +kernel
theorem dL_item_18 : decode cL_item 18 = .ok (.ireturn, 1) := by decide +kernel
theorem dL_loss_0 : decode cL_loss 0 = .ok (.aload_n 3, 1) := by decide +kernel
theorem dL_loss_1 : decode cL_loss 1 = .ok (.iconst 0, 1) := by decide +kernel
theorem dL_loss_2 : decode cL_loss 2 = .ok (.aload_n 0, 1) := by decide +kernel
theorem dL_loss_3 : decode cL_loss 3 = .ok (.iload_n 1, 1) := by decide +kernel
theorem dL_loss_4 : decode cL_loss 4 = .ok (.iload_n 2, 1) := by decide +kernel
theorem dL_loss_5 : decode cL_loss 5 = .ok (.invokevirtual 15, 3) := by decide +kernel
theorem dL_loss_8 : decode cL_loss 8 = .ok (.i2l, 1) := by decide +kernel
theorem dL_loss_9 : decode cL_loss 9 = .ok (.lastore, 1) := by decide +kernel
theorem dL_loss_10 : decode cL_loss 10 = .ok (.goto 7, 3) := by decide +kernel
theorem dL_loss_13 : decode cL_loss 13 = .ok (.astore 4, 2) := by decide +kernel
theorem dL_loss_15 : decode cL_loss 15 = .ok (.iconst 1, 1) := by decide +kernel
theorem dL_loss_16 : decode cL_loss 16 = .ok (.ireturn, 1) := by decide +kernel
theorem dL_loss_17 : decode cL_loss 17 = .ok (.iconst 0, 1) := by decide +kernel
theorem dL_loss_18 : decode cL_loss 18 = .ok (.ireturn, 1) := by decide +kernel
theorem dL_law_0 : decode cL_law 0 = .ok (.new 8, 3) := by decide +kernel
theorem dL_law_3 : decode cL_law 3 = .ok (.dup, 1) := by decide +kernel
theorem dL_law_4 : decode cL_law 4 = .ok (.invokespecial 18, 3) := by decide +kernel
theorem dL_law_7 : decode cL_law 7 = .ok (.astore_n 1, 1) := by decide +kernel
theorem dL_law_8 : decode cL_law 8 = .ok (.new 19, 3) := by decide +kernel
theorem dL_law_11 : decode cL_law 11 = .ok (.dup, 1) := by decide +kernel
theorem dL_law_12 : decode cL_law 12 = .ok (.invokespecial 21, 3) := by decide +kernel
theorem dL_law_15 : decode cL_law 15 = .ok (.astore_n 2, 1) := by decide +kernel
theorem dL_law_16 : decode cL_law 16 = .ok (.iconst 1, 1) := by decide +kernel
theorem dL_law_17 : decode cL_law 17 = .ok (.newarray .long, 2) := by decide +kernel
theorem dL_law_19 : decode cL_law 19 = .ok (.astore_n 3, 1) := by decide +kernel
theorem dL_law_20 : decode cL_law 20 = .ok (.iconst 0, 1) := by decide +kernel
theorem dL_law_21 : decode cL_law 21 = .ok (.istore 4, 2) := by decide +kernel
theorem dL_law_23 : decode cL_law 23 = .ok (.iload 4, 2) := by decide +kernel
theorem dL_law_25 : decode cL_law 25 = .ok (.aload_n 0, 1) := by decide +kernel
theorem dL_law_26 : decode cL_law 26 = .ok (.arraylength, 1) := by decide +kernel
theorem dL_law_27 : decode cL_law 27 = .ok (.bipush 6, 2) := by decide +kernel
theorem dL_law_29 : decode cL_law 29 = .ok (.isub, 1) := by decide +kernel
theorem dL_law_30 : decode cL_law 30 = .ok (.if_icmp .gt 942, 3) := by decide +kernel
theorem dL_law_33 : decode cL_law 33 = .ok (.aload_n 0, 1) := by decide +kernel
theorem dL_law_34 : decode cL_law 34 = .ok (.iload 4, 2) := by decide +kernel
theorem dL_law_36 : decode cL_law 36 = .ok (.iaload, 1) := by decide +kernel
theorem dL_law_37 : decode cL_law 37 = .ok (.bipush 31, 2) := by decide +kernel
theorem dL_law_39 : decode cL_law 39 = .ok (.iand, 1) := by decide +kernel
theorem dL_law_40 : decode cL_law 40 = .ok (.tableswitch 926 0 19 #[96, 169, 194, 207, 220, 245, 313, 381, 418, 467, 504, 553, 602, 639, 688, 737, 826, 851, 900, 913], 96) := by decide +kernel
theorem dL_law_136 : decode cL_law 136 = .ok (.aload_n 1, 1) := by decide +kernel
theorem dL_law_137 : decode cL_law 137 = .ok (.aload_n 0, 1) := by decide +kernel
theorem dL_law_138 : decode cL_law 138 = .ok (.iload 4, 2) := by decide +kernel
theorem dL_law_140 : decode cL_law 140 = .ok (.iconst 1, 1) := by decide +kernel
theorem dL_law_141 : decode cL_law 141 = .ok (.iadd, 1) := by decide +kernel
theorem dL_law_142 : decode cL_law 142 = .ok (.iaload, 1) := by decide +kernel
theorem dL_law_143 : decode cL_law 143 = .ok (.aload_n 0, 1) := by decide +kernel
theorem dL_law_144 : decode cL_law 144 = .ok (.iload 4, 2) := by decide +kernel
theorem dL_law_146 : decode cL_law 146 = .ok (.iconst 2, 1) := by decide +kernel
theorem dL_law_147 : decode cL_law 147 = .ok (.iadd, 1) := by decide +kernel
theorem dL_law_148 : decode cL_law 148 = .ok (.iaload, 1) := by decide +kernel
theorem dL_law_149 : decode cL_law 149 = .ok (.aload_n 0, 1) := by decide +kernel
theorem dL_law_150 : decode cL_law 150 = .ok (.iload 4, 2) := by decide +kernel
theorem dL_law_152 : decode cL_law 152 = .ok (.iconst 3, 1) := by decide +kernel
theorem dL_law_153 : decode cL_law 153 = .ok (.iadd, 1) := by decide +kernel
theorem dL_law_154 : decode cL_law 154 = .ok (.iaload, 1) := by decide +kernel
theorem dL_law_155 : decode cL_law 155 = .ok (.aload_n 0, 1) := by decide +kernel
theorem dL_law_156 : decode cL_law 156 = .ok (.iload 4, 2) := by decide +kernel
theorem dL_law_158 : decode cL_law 158 = .ok (.iconst 4, 1) := by decide +kernel
theorem dL_law_159 : decode cL_law 159 = .ok (.iadd, 1) := by decide +kernel
theorem dL_law_160 : decode cL_law 160 = .ok (.iaload, 1) := by decide +kernel
theorem dL_law_161 : decode cL_law 161 = .ok (.aload_n 0, 1) := by decide +kernel
theorem dL_law_162 : decode cL_law 162 = .ok (.iload 4, 2) := by decide +kernel
theorem dL_law_164 : decode cL_law 164 = .ok (.iconst 5, 1) := by decide +kernel
theorem dL_law_165 : decode cL_law 165 = .ok (.iadd, 1) := by decide +kernel
theorem dL_law_166 : decode cL_law 166 = .ok (.iaload, 1) := by decide +kernel
theorem dL_law_167 : decode cL_law 167 = .ok (.invokevirtual 22, 3) := by decide +kernel
theorem dL_law_170 : decode cL_law 170 = .ok (.aload_n 2, 1) := by decide +kernel
theorem dL_law_171 : decode cL_law 171 = .ok (.aload_n 0, 1) := by decide +kernel
theorem dL_law_172 : decode cL_law 172 = .ok (.iload 4, 2) := by decide +kernel
theorem dL_law_174 : decode cL_law 174 = .ok (.iconst 1, 1) := by decide +kernel
theorem dL_law_175 : decode cL_law 175 = .ok (.iadd, 1) := by decide +kernel
theorem dL_law_176 : decode cL_law 176 = .ok (.iaload, 1) := by decide +kernel
theorem dL_law_177 : decode cL_law 177 = .ok (.aload_n 0, 1) := by decide +kernel
theorem dL_law_178 : decode cL_law 178 = .ok (.iload 4, 2) := by decide +kernel
theorem dL_law_180 : decode cL_law 180 = .ok (.iconst 2, 1) := by decide +kernel
theorem dL_law_181 : decode cL_law 181 = .ok (.iadd, 1) := by decide +kernel
theorem dL_law_182 : decode cL_law 182 = .ok (.iaload, 1) := by decide +kernel
theorem dL_law_183 : decode cL_law 183 = .ok (.aload_n 0, 1) := by decide +kernel
theorem dL_law_184 : decode cL_law 184 = .ok (.iload 4, 2) := by decide +kernel
theorem dL_law_186 : decode cL_law 186 = .ok (.iconst 3, 1) := by decide +kernel
theorem dL_law_187 : decode cL_law 187 = .ok (.iadd, 1) := by decide +kernel
theorem dL_law_188 : decode cL_law 188 = .ok (.iaload, 1) := by decide +kernel
theorem dL_law_189 : decode cL_law 189 = .ok (.aload_n 0, 1) := by decide +kernel
theorem dL_law_190 : decode cL_law 190 = .ok (.iload 4, 2) := by decide +kernel
theorem dL_law_192 : decode cL_law 192 = .ok (.iconst 4, 1) := by decide +kernel
theorem dL_law_193 : decode cL_law 193 = .ok (.iadd, 1) := by decide +kernel
theorem dL_law_194 : decode cL_law 194 = .ok (.iaload, 1) := by decide +kernel
theorem dL_law_195 : decode cL_law 195 = .ok (.aload_n 0, 1) := by decide +kernel
theorem dL_law_196 : decode cL_law 196 = .ok (.iload 4, 2) := by decide +kernel
theorem dL_law_198 : decode cL_law 198 = .ok (.iconst 5, 1) := by decide +kernel
theorem dL_law_199 : decode cL_law 199 = .ok (.iadd, 1) := by decide +kernel
theorem dL_law_200 : decode cL_law 200 = .ok (.iaload, 1) := by decide +kernel
theorem dL_law_201 : decode cL_law 201 = .ok (.invokevirtual 26, 3) := by decide +kernel
theorem dL_law_204 : decode cL_law 204 = .ok (.if_icmp .eq 762, 3) := by decide +kernel
theorem dL_law_207 : decode cL_law 207 = .ok (.iconst 0, 1) := by decide +kernel
theorem dL_law_208 : decode cL_law 208 = .ok (.ireturn, 1) := by decide +kernel
theorem dL_law_209 : decode cL_law 209 = .ok (.aload_n 1, 1) := by decide +kernel
theorem dL_law_210 : decode cL_law 210 = .ok (.aload_n 0, 1) := by decide +kernel
theorem dL_law_211 : decode cL_law 211 = .ok (.iload 4, 2) := by decide +kernel
theorem dL_law_213 : decode cL_law 213 = .ok (.iconst 1, 1) := by decide +kernel
theorem dL_law_214 : decode cL_law 214 = .ok (.iadd, 1) := by decide +kernel
theorem dL_law_215 : decode cL_law 215 = .ok (.iaload, 1) := by decide +kernel
theorem dL_law_216 : decode cL_law 216 = .ok (.invokevirtual 27, 3) := by decide +kernel
theorem dL_law_219 : decode cL_law 219 = .ok (.aload_n 2, 1) := by decide +kernel
theorem dL_law_220 : decode cL_law 220 = .ok (.aload_n 0, 1) := by decide +kernel
theorem dL_law_221 : decode cL_law 221 = .ok (.iload 4, 2) := by decide +kernel
theorem dL_law_223 : decode cL_law 223 = .ok (.iconst 1, 1) := by decide +kernel
theorem dL_law_224 : decode cL_law 224 = .ok (.iadd, 1) := by decide +kernel
theorem dL_law_225 : decode cL_law 225 = .ok (.iaload, 1) := by decide +kernel
theorem dL_law_226 : decode cL_law 226 = .ok (.invokevirtual 31, 3) := by decide +kernel
theorem dL_law_229 : decode cL_law 229 = .ok (.if_icmp .eq 737, 3) := by decide +kernel
theorem dL_law_232 : decode cL_law 232 = .ok (.iconst 0, 1) := by decide +kernel
theorem dL_law_233 : decode cL_law 233 = .ok (.ireturn, 1) := by decide +kernel
theorem dL_law_234 : decode cL_law 234 = .ok (.aload_n 1, 1) := by decide +kernel
theorem dL_law_235 : decode cL_law 235 = .ok (.invokevirtual 32, 3) := by decide +kernel
theorem dL_law_238 : decode cL_law 238 = .ok (.aload_n 2, 1) := by decide +kernel
theorem dL_law_239 : decode cL_law 239 = .ok (.invokevirtual 36, 3) := by decide +kernel
theorem dL_law_242 : decode cL_law 242 = .ok (.if_icmp .eq 724, 3) := by decide +kernel
theorem dL_law_245 : decode cL_law 245 = .ok (.iconst 0, 1) := by decide +kernel
theorem dL_law_246 : decode cL_law 246 = .ok (.ireturn, 1) := by decide +kernel
theorem dL_law_247 : decode cL_law 247 = .ok (.aload_n 1, 1) := by decide +kernel
theorem dL_law_248 : decode cL_law 248 = .ok (.invokevirtual 37, 3) := by decide +kernel
theorem dL_law_251 : decode cL_law 251 = .ok (.aload_n 2, 1) := by decide +kernel
theorem dL_law_252 : decode cL_law 252 = .ok (.invokevirtual 40, 3) := by decide +kernel
theorem dL_law_255 : decode cL_law 255 = .ok (.if_icmp .eq 711, 3) := by decide +kernel
theorem dL_law_258 : decode cL_law 258 = .ok (.iconst 0, 1) := by decide +kernel
theorem dL_law_259 : decode cL_law 259 = .ok (.ireturn, 1) := by decide +kernel
theorem dL_law_260 : decode cL_law 260 = .ok (.aload_n 1, 1) := by decide +kernel
theorem dL_law_261 : decode cL_law 261 = .ok (.aload_n 0, 1) := by decide +kernel
theorem dL_law_262 : decode cL_law 262 = .ok (.iload 4, 2) := by decide +kernel
theorem dL_law_264 : decode cL_law 264 = .ok (.iconst 1, 1) := by decide +kernel
theorem dL_law_265 : decode cL_law 265 = .ok (.iadd, 1) := by decide +kernel
theorem dL_law_266 : decode cL_law 266 = .ok (.iaload, 1) := by decide +kernel
theorem dL_law_267 : decode cL_law 267 = .ok (.invokevirtual 41, 3) := by decide +kernel
theorem dL_law_270 : decode cL_law 270 = .ok (.aload_n 2, 1) := by decide +kernel
theorem dL_law_271 : decode cL_law 271 = .ok (.aload_n 0, 1) := by decide +kernel
theorem dL_law_272 : decode cL_law 272 = .ok (.iload 4, 2) := by decide +kernel
theorem dL_law_274 : decode cL_law 274 = .ok (.iconst 1, 1) := by decide +kernel
theorem dL_law_275 : decode cL_law 275 = .ok (.iadd, 1) := by decide +kernel
theorem dL_law_276 : decode cL_law 276 = .ok (.iaload, 1) := by decide +kernel
theorem dL_law_277 : decode cL_law 277 = .ok (.invokevirtual 45, 3) := by decide +kernel
theorem dL_law_280 : decode cL_law 280 = .ok (.if_icmp .eq 686, 3) := by decide +kernel
theorem dL_law_283 : decode cL_law 283 = .ok (.iconst 0, 1) := by decide +kernel
theorem dL_law_284 : decode cL_law 284 = .ok (.ireturn, 1) := by decide +kernel
theorem dL_law_285 : decode cL_law 285 = .ok (.aload_n 1, 1) := by decide +kernel
theorem dL_law_286 : decode cL_law 286 = .ok (.aload_n 0, 1) := by decide +kernel
theorem dL_law_287 : decode cL_law 287 = .ok (.iload 4, 2) := by decide +kernel
theorem dL_law_289 : decode cL_law 289 = .ok (.iconst 1, 1) := by decide +kernel
theorem dL_law_290 : decode cL_law 290 = .ok (.iadd, 1) := by decide +kernel
theorem dL_law_291 : decode cL_law 291 = .ok (.iaload, 1) := by decide +kernel
theorem dL_law_292 : decode cL_law 292 = .ok (.aload_n 0, 1) := by decide +kernel
theorem dL_law_293 : decode cL_law 293 = .ok (.iload 4, 2) := by decide +kernel
theorem dL_law_295 : decode cL_law 295 = .ok (.iconst 2, 1) := by decide +kernel
theorem dL_law_296 : decode cL_law 296 = .ok (.iadd, 1) := by decide +kernel
theorem dL_law_297 : decode cL_law 297 = .ok (.iaload, 1) := by decide +kernel
theorem dL_law_298 : decode cL_law 298 = .ok (.aload_n 3, 1) := by decide +kernel
theorem dL_law_299 : decode cL_law 299 = .ok (.invokestatic 46, 3) := by decide +kernel
theorem dL_law_302 : decode cL_law 302 = .ok (.istore 5, 2) := by decide +kernel
theorem dL_law_304 : decode cL_law 304 = .ok (.aload_n 2, 1) := by decide +kernel
theorem dL_law_305 : decode cL_law 305 = .ok (.aload_n 0, 1) := by decide +kernel
theorem dL_law_306 : decode cL_law 306 = .ok (.iload 4, 2) := by decide +kernel
theorem dL_law_308 : decode cL_law 308 = .ok (.iconst 1, 1) := by decide +kernel
theorem dL_law_309 : decode cL_law 309 = .ok (.iadd, 1) := by decide +kernel
theorem dL_law_310 : decode cL_law 310 = .ok (.iaload, 1) := by decide +kernel
theorem dL_law_311 : decode cL_law 311 = .ok (.aload_n 0, 1) := by decide +kernel
theorem dL_law_312 : decode cL_law 312 = .ok (.iload 4, 2) := by decide +kernel
theorem dL_law_314 : decode cL_law 314 = .ok (.iconst 2, 1) := by decide +kernel
theorem dL_law_315 : decode cL_law 315 = .ok (.iadd, 1) := by decide +kernel
theorem dL_law_316 : decode cL_law 316 = .ok (.iaload, 1) := by decide +kernel
theorem dL_law_317 : decode cL_law 317 = .ok (.invokevirtual 51, 3) := by decide +kernel
theorem dL_law_320 : decode cL_law 320 = .ok (.istore 6, 2) := by decide +kernel
theorem dL_law_322 : decode cL_law 322 = .ok (.aload_n 2, 1) := by decide +kernel
theorem dL_law_323 : decode cL_law 323 = .ok (.invokevirtual 52, 3) := by decide +kernel
theorem dL_law_326 : decode cL_law 326 = .ok (.iload 5, 2) := by decide +kernel
theorem dL_law_328 : decode cL_law 328 = .ok (.if_icmp .eq 5, 3) := by decide +kernel
theorem dL_law_331 : decode cL_law 331 = .ok (.iconst 0, 1) := by decide +kernel
theorem dL_law_332 : decode cL_law 332 = .ok (.ireturn, 1) := by decide +kernel
theorem dL_law_333 : decode cL_law 333 = .ok (.iload 5, 2) := by decide +kernel
theorem dL_law_335 : decode cL_law 335 = .ok (.ifCond .ne 15, 3) := by decide +kernel
theorem dL_law_338 : decode cL_law 338 = .ok (.aload_n 3, 1) := by decide +kernel
theorem dL_law_339 : decode cL_law 339 = .ok (.iconst 0, 1) := by decide +kernel
theorem dL_law_340 : decode cL_law 340 = .ok (.laload, 1) := by decide +kernel
theorem dL_law_341 : decode cL_law 341 = .ok (.iload 6, 2) := by decide +kernel
theorem dL_law_343 : decode cL_law 343 = .ok (.i2l, 1) := by decide +kernel
theorem dL_law_344 : decode cL_law 344 = .ok (.lcmp, 1) := by decide +kernel
theorem dL_law_345 : decode cL_law 345 = .ok (.ifCond .eq 5, 3) := by decide +kernel
theorem dL_law_348 : decode cL_law 348 = .ok (.iconst 0, 1) := by decide +kernel
theorem dL_law_349 : decode cL_law 349 = .ok (.ireturn, 1) := by decide +kernel
theorem dL_law_350 : decode cL_law 350 = .ok (.goto 616, 3) := by decide +kernel
theorem dL_law_353 : decode cL_law 353 = .ok (.aload_n 1, 1) := by decide +kernel
theorem dL_law_354 : decode cL_law 354 = .ok (.aload_n 0, 1) := by decide +kernel
theorem dL_law_355 : decode cL_law 355 = .ok (.iload 4, 2) := by decide +kernel
theorem dL_law_357 : decode cL_law 357 = .ok (.iconst 1, 1) := by decide +kernel
theorem dL_law_358 : decode cL_law 358 = .ok (.iadd, 1) := by decide +kernel
theorem dL_law_359 : decode cL_law 359 = .ok (.iaload, 1) := by decide +kernel
theorem dL_law_360 : decode cL_law 360 = .ok (.aload_n 0, 1) := by decide +kernel
theorem dL_law_361 : decode cL_law 361 = .ok (.iload 4, 2) := by decide +kernel
theorem dL_law_363 : decode cL_law 363 = .ok (.iconst 2, 1) := by decide +kernel
theorem dL_law_364 : decode cL_law 364 = .ok (.iadd, 1) := by decide +kernel
theorem dL_law_365 : decode cL_law 365 = .ok (.iaload, 1) := by decide +kernel
theorem dL_law_366 : decode cL_law 366 = .ok (.aload_n 3, 1) := by decide +kernel
theorem dL_law_367 : decode cL_law 367 = .ok (.invokestatic 55, 3) := by decide +kernel
theorem dL_law_370 : decode cL_law 370 = .ok (.istore 5, 2) := by decide +kernel
theorem dL_law_372 : decode cL_law 372 = .ok (.aload_n 2, 1) := by decide +kernel
theorem dL_law_373 : decode cL_law 373 = .ok (.aload_n 0, 1) := by decide +kernel
theorem dL_law_374 : decode cL_law 374 = .ok (.iload 4, 2) := by decide +kernel
theorem dL_law_376 : decode cL_law 376 = .ok (.iconst 1, 1) := by decide +kernel
theorem dL_law_377 : decode cL_law 377 = .ok (.iadd, 1) := by decide +kernel
theorem dL_law_378 : decode cL_law 378 = .ok (.iaload, 1) := by decide +kernel
theorem dL_law_379 : decode cL_law 379 = .ok (.aload_n 0, 1) := by decide +kernel
theorem dL_law_380 : decode cL_law 380 = .ok (.iload 4, 2) := by decide +kernel
theorem dL_law_382 : decode cL_law 382 = .ok (.iconst 2, 1) := by decide +kernel
theorem dL_law_383 : decode cL_law 383 = .ok (.iadd, 1) := by decide +kernel
theorem dL_law_384 : decode cL_law 384 = .ok (.iaload, 1) := by decide +kernel
theorem dL_law_385 : decode cL_law 385 = .ok (.invokevirtual 57, 3) := by decide +kernel
theorem dL_law_388 : decode cL_law 388 = .ok (.istore 6, 2) := by decide +kernel
theorem dL_law_390 : decode cL_law 390 = .ok (.aload_n 2, 1) := by decide +kernel
theorem dL_law_391 : decode cL_law 391 = .ok (.invokevirtual 52, 3) := by decide +kernel
theorem dL_law_394 : decode cL_law 394 = .ok (.iload 5, 2) := by decide +kernel
theorem dL_law_396 : decode cL_law 396 = .ok (.if_icmp .eq 5, 3) := by decide +kernel
theorem dL_law_399 : decode cL_law 399 = .ok (.iconst 0, 1) := by decide +kernel
theorem dL_law_400 : decode cL_law 400 = .ok (.ireturn, 1) := by decide +kernel
theorem dL_law_401 : decode cL_law 401 = .ok (.iload 5, 2) := by decide +kernel
theorem dL_law_403 : decode cL_law 403 = .ok (.ifCond .ne 15, 3) := by decide +kernel
theorem dL_law_406 : decode cL_law 406 = .ok (.aload_n 3, 1) := by decide +kernel
theorem dL_law_407 : decode cL_law 407 = .ok (.iconst 0, 1) := by decide +kernel
theorem dL_law_408 : decode cL_law 408 = .ok (.laload, 1) := by decide +kernel
theorem dL_law_409 : decode cL_law 409 = .ok (.iload 6, 2) := by decide +kernel
theorem dL_law_411 : decode cL_law 411 = .ok (.i2l, 1) := by decide +kernel
theorem dL_law_412 : decode cL_law 412 = .ok (.lcmp, 1) := by decide +kernel
theorem dL_law_413 : decode cL_law 413 = .ok (.ifCond .eq 5, 3) := by decide +kernel
theorem dL_law_416 : decode cL_law 416 = .ok (.iconst 0, 1) := by decide +kernel
theorem dL_law_417 : decode cL_law 417 = .ok (.ireturn, 1) := by decide +kernel
theorem dL_law_418 : decode cL_law 418 = .ok (.goto 548, 3) := by decide +kernel
theorem dL_law_421 : decode cL_law 421 = .ok (.aload_n 1, 1) := by decide +kernel
theorem dL_law_422 : decode cL_law 422 = .ok (.aload_n 0, 1) := by decide +kernel
theorem dL_law_423 : decode cL_law 423 = .ok (.iload 4, 2) := by decide +kernel
theorem dL_law_425 : decode cL_law 425 = .ok (.iconst 1, 1) := by decide +kernel
theorem dL_law_426 : decode cL_law 426 = .ok (.iadd, 1) := by decide +kernel
theorem dL_law_427 : decode cL_law 427 = .ok (.iaload, 1) := by decide +kernel
theorem dL_law_428 : decode cL_law 428 = .ok (.aload_n 0, 1) := by decide +kernel
theorem dL_law_429 : decode cL_law 429 = .ok (.iload 4, 2) := by decide +kernel
theorem dL_law_431 : decode cL_law 431 = .ok (.iconst 2, 1) := by decide +kernel
theorem dL_law_432 : decode cL_law 432 = .ok (.iadd, 1) := by decide +kernel
theorem dL_law_433 : decode cL_law 433 = .ok (.iaload, 1) := by decide +kernel
theorem dL_law_434 : decode cL_law 434 = .ok (.invokevirtual 58, 3) := by decide +kernel
theorem dL_law_437 : decode cL_law 437 = .ok (.aload_n 2, 1) := by decide +kernel
theorem dL_law_438 : decode cL_law 438 = .ok (.aload_n 0, 1) := by decide +kernel
theorem dL_law_439 : decode cL_law 439 = .ok (.iload 4, 2) := by decide +kernel
theorem dL_law_441 : decode cL_law 441 = .ok (.iconst 1, 1) := by decide +kernel
theorem dL_law_442 : decode cL_law 442 = .ok (.iadd, 1) := by decide +kernel
theorem dL_law_443 : decode cL_law 443 = .ok (.iaload, 1) := by decide +kernel
theorem dL_law_444 : decode cL_law 444 = .ok (.aload_n 0, 1) := by decide +kernel
theorem dL_law_445 : decode cL_law 445 = .ok (.iload 4, 2) := by decide +kernel
theorem dL_law_447 : decode cL_law 447 = .ok (.iconst 2, 1) := by decide +kernel
theorem dL_law_448 : decode cL_law 448 = .ok (.iadd, 1) := by decide +kernel
theorem dL_law_449 : decode cL_law 449 = .ok (.iaload, 1) := by decide +kernel
theorem dL_law_450 : decode cL_law 450 = .ok (.invokevirtual 61, 3) := by decide +kernel
theorem dL_law_453 : decode cL_law 453 = .ok (.if_icmp .eq 513, 3) := by decide +kernel
theorem dL_law_456 : decode cL_law 456 = .ok (.iconst 0, 1) := by decide +kernel
theorem dL_law_457 : decode cL_law 457 = .ok (.ireturn, 1) := by decide +kernel
theorem dL_law_458 : decode cL_law 458 = .ok (.aload_n 1, 1) := by decide +kernel
theorem dL_law_459 : decode cL_law 459 = .ok (.aload_n 0, 1) := by decide +kernel
theorem dL_law_460 : decode cL_law 460 = .ok (.iload 4, 2) := by decide +kernel
theorem dL_law_462 : decode cL_law 462 = .ok (.iconst 1, 1) := by decide +kernel
theorem dL_law_463 : decode cL_law 463 = .ok (.iadd, 1) := by decide +kernel
theorem dL_law_464 : decode cL_law 464 = .ok (.iaload, 1) := by decide +kernel
theorem dL_law_465 : decode cL_law 465 = .ok (.aload_n 0, 1) := by decide +kernel
theorem dL_law_466 : decode cL_law 466 = .ok (.iload 4, 2) := by decide +kernel
theorem dL_law_468 : decode cL_law 468 = .ok (.iconst 2, 1) := by decide +kernel
theorem dL_law_469 : decode cL_law 469 = .ok (.iadd, 1) := by decide +kernel
theorem dL_law_470 : decode cL_law 470 = .ok (.iaload, 1) := by decide +kernel
theorem dL_law_471 : decode cL_law 471 = .ok (.aload_n 0, 1) := by decide +kernel
theorem dL_law_472 : decode cL_law 472 = .ok (.iload 4, 2) := by decide +kernel
theorem dL_law_474 : decode cL_law 474 = .ok (.iconst 3, 1) := by decide +kernel
theorem dL_law_475 : decode cL_law 475 = .ok (.iadd, 1) := by decide +kernel
theorem dL_law_476 : decode cL_law 476 = .ok (.iaload, 1) := by decide +kernel
theorem dL_law_477 : decode cL_law 477 = .ok (.invokevirtual 62, 3) := by decide +kernel
theorem dL_law_480 : decode cL_law 480 = .ok (.aload_n 2, 1) := by decide +kernel
theorem dL_law_481 : decode cL_law 481 = .ok (.aload_n 0, 1) := by decide +kernel
theorem dL_law_482 : decode cL_law 482 = .ok (.iload 4, 2) := by decide +kernel
theorem dL_law_484 : decode cL_law 484 = .ok (.iconst 1, 1) := by decide +kernel
theorem dL_law_485 : decode cL_law 485 = .ok (.iadd, 1) := by decide +kernel
theorem dL_law_486 : decode cL_law 486 = .ok (.iaload, 1) := by decide +kernel
theorem dL_law_487 : decode cL_law 487 = .ok (.aload_n 0, 1) := by decide +kernel
theorem dL_law_488 : decode cL_law 488 = .ok (.iload 4, 2) := by decide +kernel
theorem dL_law_490 : decode cL_law 490 = .ok (.iconst 2, 1) := by decide +kernel
theorem dL_law_491 : decode cL_law 491 = .ok (.iadd, 1) := by decide +kernel
theorem dL_law_492 : decode cL_law 492 = .ok (.iaload, 1) := by decide +kernel
theorem dL_law_493 : decode cL_law 493 = .ok (.aload_n 0, 1) := by decide +kernel
theorem dL_law_494 : decode cL_law 494 = .ok (.iload 4, 2) := by decide +kernel
theorem dL_law_496 : decode cL_law 496 = .ok (.iconst 3, 1) := by decide +kernel
theorem dL_law_497 : decode cL_law 497 = .ok (.iadd, 1) := by decide +kernel
theorem dL_law_498 : decode cL_law 498 = .ok (.iaload, 1) := by decide +kernel
theorem dL_law_499 : decode cL_law 499 = .ok (.invokevirtual 66, 3) := by decide +kernel
theorem dL_law_502 : decode cL_law 502 = .ok (.if_icmp .eq 464, 3) := by decide +kernel
theorem dL_law_505 : decode cL_law 505 = .ok (.iconst 0, 1) := by decide +kernel
theorem dL_law_506 : decode cL_law 506 = .ok (.ireturn, 1) := by decide +kernel
theorem dL_law_507 : decode cL_law 507 = .ok (.aload_n 1, 1) := by decide +kernel
theorem dL_law_508 : decode cL_law 508 = .ok (.aload_n 0, 1) := by decide +kernel
theorem dL_law_509 : decode cL_law 509 = .ok (.iload 4, 2) := by decide +kernel
theorem dL_law_511 : decode cL_law 511 = .ok (.iconst 1, 1) := by decide +kernel
theorem dL_law_512 : decode cL_law 512 = .ok (.iadd, 1) := by decide +kernel
theorem dL_law_513 : decode cL_law 513 = .ok (.iaload, 1) := by decide +kernel
theorem dL_law_514 : decode cL_law 514 = .ok (.aload_n 0, 1) := by decide +kernel
theorem dL_law_515 : decode cL_law 515 = .ok (.iload 4, 2) := by decide +kernel
theorem dL_law_517 : decode cL_law 517 = .ok (.iconst 2, 1) := by decide +kernel
theorem dL_law_518 : decode cL_law 518 = .ok (.iadd, 1) := by decide +kernel
theorem dL_law_519 : decode cL_law 519 = .ok (.iaload, 1) := by decide +kernel
theorem dL_law_520 : decode cL_law 520 = .ok (.invokevirtual 67, 3) := by decide +kernel
theorem dL_law_523 : decode cL_law 523 = .ok (.aload_n 2, 1) := by decide +kernel
theorem dL_law_524 : decode cL_law 524 = .ok (.aload_n 0, 1) := by decide +kernel
theorem dL_law_525 : decode cL_law 525 = .ok (.iload 4, 2) := by decide +kernel
theorem dL_law_527 : decode cL_law 527 = .ok (.iconst 1, 1) := by decide +kernel
theorem dL_law_528 : decode cL_law 528 = .ok (.iadd, 1) := by decide +kernel
theorem dL_law_529 : decode cL_law 529 = .ok (.iaload, 1) := by decide +kernel
theorem dL_law_530 : decode cL_law 530 = .ok (.aload_n 0, 1) := by decide +kernel
theorem dL_law_531 : decode cL_law 531 = .ok (.iload 4, 2) := by decide +kernel
theorem dL_law_533 : decode cL_law 533 = .ok (.iconst 2, 1) := by decide +kernel
theorem dL_law_534 : decode cL_law 534 = .ok (.iadd, 1) := by decide +kernel
theorem dL_law_535 : decode cL_law 535 = .ok (.iaload, 1) := by decide +kernel
theorem dL_law_536 : decode cL_law 536 = .ok (.invokevirtual 70, 3) := by decide +kernel
theorem dL_law_539 : decode cL_law 539 = .ok (.if_icmp .eq 427, 3) := by decide +kernel
theorem dL_law_542 : decode cL_law 542 = .ok (.iconst 0, 1) := by decide +kernel
theorem dL_law_543 : decode cL_law 543 = .ok (.ireturn, 1) := by decide +kernel
theorem dL_law_544 : decode cL_law 544 = .ok (.aload_n 1, 1) := by decide +kernel
theorem dL_law_545 : decode cL_law 545 = .ok (.aload_n 0, 1) := by decide +kernel
theorem dL_law_546 : decode cL_law 546 = .ok (.iload 4, 2) := by decide +kernel
theorem dL_law_548 : decode cL_law 548 = .ok (.iconst 1, 1) := by decide +kernel
theorem dL_law_549 : decode cL_law 549 = .ok (.iadd, 1) := by decide +kernel
theorem dL_law_550 : decode cL_law 550 = .ok (.iaload, 1) := by decide +kernel
theorem dL_law_551 : decode cL_law 551 = .ok (.aload_n 0, 1) := by decide +kernel
theorem dL_law_552 : decode cL_law 552 = .ok (.iload 4, 2) := by decide +kernel
theorem dL_law_554 : decode cL_law 554 = .ok (.iconst 2, 1) := by decide +kernel
theorem dL_law_555 : decode cL_law 555 = .ok (.iadd, 1) := by decide +kernel
theorem dL_law_556 : decode cL_law 556 = .ok (.iaload, 1) := by decide +kernel
theorem dL_law_557 : decode cL_law 557 = .ok (.aload_n 0, 1) := by decide +kernel
theorem dL_law_558 : decode cL_law 558 = .ok (.iload 4, 2) := by decide +kernel
theorem dL_law_560 : decode cL_law 560 = .ok (.iconst 3, 1) := by decide +kernel
theorem dL_law_561 : decode cL_law 561 = .ok (.iadd, 1) := by decide +kernel
theorem dL_law_562 : decode cL_law 562 = .ok (.iaload, 1) := by decide +kernel
theorem dL_law_563 : decode cL_law 563 = .ok (.invokevirtual 71, 3) := by decide +kernel
theorem dL_law_566 : decode cL_law 566 = .ok (.aload_n 2, 1) := by decide +kernel
theorem dL_law_567 : decode cL_law 567 = .ok (.aload_n 0, 1) := by decide +kernel
theorem dL_law_568 : decode cL_law 568 = .ok (.iload 4, 2) := by decide +kernel
theorem dL_law_570 : decode cL_law 570 = .ok (.iconst 1, 1) := by decide +kernel
theorem dL_law_571 : decode cL_law 571 = .ok (.iadd, 1) := by decide +kernel
theorem dL_law_572 : decode cL_law 572 = .ok (.iaload, 1) := by decide +kernel
theorem dL_law_573 : decode cL_law 573 = .ok (.aload_n 0, 1) := by decide +kernel
theorem dL_law_574 : decode cL_law 574 = .ok (.iload 4, 2) := by decide +kernel
theorem dL_law_576 : decode cL_law 576 = .ok (.iconst 2, 1) := by decide +kernel
theorem dL_law_577 : decode cL_law 577 = .ok (.iadd, 1) := by decide +kernel
theorem dL_law_578 : decode cL_law 578 = .ok (.iaload, 1) := by decide +kernel
theorem dL_law_579 : decode cL_law 579 = .ok (.aload_n 0, 1) := by decide +kernel
theorem dL_law_580 : decode cL_law 580 = .ok (.iload 4, 2) := by decide +kernel
theorem dL_law_582 : decode cL_law 582 = .ok (.iconst 3, 1) := by decide +kernel
theorem dL_law_583 : decode cL_law 583 = .ok (.iadd, 1) := by decide +kernel
theorem dL_law_584 : decode cL_law 584 = .ok (.iaload, 1) := by decide +kernel
theorem dL_law_585 : decode cL_law 585 = .ok (.invokevirtual 74, 3) := by decide +kernel
theorem dL_law_588 : decode cL_law 588 = .ok (.if_icmp .eq 378, 3) := by decide +kernel
theorem dL_law_591 : decode cL_law 591 = .ok (.iconst 0, 1) := by decide +kernel
theorem dL_law_592 : decode cL_law 592 = .ok (.ireturn, 1) := by decide +kernel
theorem dL_law_593 : decode cL_law 593 = .ok (.aload_n 1, 1) := by decide +kernel
theorem dL_law_594 : decode cL_law 594 = .ok (.aload_n 0, 1) := by decide +kernel
theorem dL_law_595 : decode cL_law 595 = .ok (.iload 4, 2) := by decide +kernel
theorem dL_law_597 : decode cL_law 597 = .ok (.iconst 1, 1) := by decide +kernel
theorem dL_law_598 : decode cL_law 598 = .ok (.iadd, 1) := by decide +kernel
theorem dL_law_599 : decode cL_law 599 = .ok (.iaload, 1) := by decide +kernel
theorem dL_law_600 : decode cL_law 600 = .ok (.aload_n 0, 1) := by decide +kernel
theorem dL_law_601 : decode cL_law 601 = .ok (.iload 4, 2) := by decide +kernel
theorem dL_law_603 : decode cL_law 603 = .ok (.iconst 2, 1) := by decide +kernel
theorem dL_law_604 : decode cL_law 604 = .ok (.iadd, 1) := by decide +kernel
theorem dL_law_605 : decode cL_law 605 = .ok (.iaload, 1) := by decide +kernel
theorem dL_law_606 : decode cL_law 606 = .ok (.aload_n 0, 1) := by decide +kernel
theorem dL_law_607 : decode cL_law 607 = .ok (.iload 4, 2) := by decide +kernel
theorem dL_law_609 : decode cL_law 609 = .ok (.iconst 3, 1) := by decide +kernel
theorem dL_law_610 : decode cL_law 610 = .ok (.iadd, 1) := by decide +kernel
theorem dL_law_611 : decode cL_law 611 = .ok (.iaload, 1) := by decide +kernel
theorem dL_law_612 : decode cL_law 612 = .ok (.invokevirtual 75, 3) := by decide +kernel
theorem dL_law_615 : decode cL_law 615 = .ok (.aload_n 2, 1) := by decide +kernel
theorem dL_law_616 : decode cL_law 616 = .ok (.aload_n 0, 1) := by decide +kernel
theorem dL_law_617 : decode cL_law 617 = .ok (.iload 4, 2) := by decide +kernel
theorem dL_law_619 : decode cL_law 619 = .ok (.iconst 1, 1) := by decide +kernel
theorem dL_law_620 : decode cL_law 620 = .ok (.iadd, 1) := by decide +kernel
theorem dL_law_621 : decode cL_law 621 = .ok (.iaload, 1) := by decide +kernel
theorem dL_law_622 : decode cL_law 622 = .ok (.aload_n 0, 1) := by decide +kernel
theorem dL_law_623 : decode cL_law 623 = .ok (.iload 4, 2) := by decide +kernel
theorem dL_law_625 : decode cL_law 625 = .ok (.iconst 2, 1) := by decide +kernel
theorem dL_law_626 : decode cL_law 626 = .ok (.iadd, 1) := by decide +kernel
theorem dL_law_627 : decode cL_law 627 = .ok (.iaload, 1) := by decide +kernel
theorem dL_law_628 : decode cL_law 628 = .ok (.aload_n 0, 1) := by decide +kernel
theorem dL_law_629 : decode cL_law 629 = .ok (.iload 4, 2) := by decide +kernel
theorem dL_law_631 : decode cL_law 631 = .ok (.iconst 3, 1) := by decide +kernel
theorem dL_law_632 : decode cL_law 632 = .ok (.iadd, 1) := by decide +kernel
theorem dL_law_633 : decode cL_law 633 = .ok (.iaload, 1) := by decide +kernel
theorem dL_law_634 : decode cL_law 634 = .ok (.invokevirtual 78, 3) := by decide +kernel
theorem dL_law_637 : decode cL_law 637 = .ok (.if_icmp .eq 329, 3) := by decide +kernel
theorem dL_law_640 : decode cL_law 640 = .ok (.iconst 0, 1) := by decide +kernel
theorem dL_law_641 : decode cL_law 641 = .ok (.ireturn, 1) := by decide +kernel
theorem dL_law_642 : decode cL_law 642 = .ok (.aload_n 1, 1) := by decide +kernel
theorem dL_law_643 : decode cL_law 643 = .ok (.aload_n 0, 1) := by decide +kernel
theorem dL_law_644 : decode cL_law 644 = .ok (.iload 4, 2) := by decide +kernel
theorem dL_law_646 : decode cL_law 646 = .ok (.iconst 1, 1) := by decide +kernel
theorem dL_law_647 : decode cL_law 647 = .ok (.iadd, 1) := by decide +kernel
theorem dL_law_648 : decode cL_law 648 = .ok (.iaload, 1) := by decide +kernel
theorem dL_law_649 : decode cL_law 649 = .ok (.aload_n 0, 1) := by decide +kernel
theorem dL_law_650 : decode cL_law 650 = .ok (.iload 4, 2) := by decide +kernel
theorem dL_law_652 : decode cL_law 652 = .ok (.iconst 2, 1) := by decide +kernel
theorem dL_law_653 : decode cL_law 653 = .ok (.iadd, 1) := by decide +kernel
theorem dL_law_654 : decode cL_law 654 = .ok (.iaload, 1) := by decide +kernel
theorem dL_law_655 : decode cL_law 655 = .ok (.invokevirtual 79, 3) := by decide +kernel
theorem dL_law_658 : decode cL_law 658 = .ok (.aload_n 2, 1) := by decide +kernel
theorem dL_law_659 : decode cL_law 659 = .ok (.aload_n 0, 1) := by decide +kernel
theorem dL_law_660 : decode cL_law 660 = .ok (.iload 4, 2) := by decide +kernel
theorem dL_law_662 : decode cL_law 662 = .ok (.iconst 1, 1) := by decide +kernel
theorem dL_law_663 : decode cL_law 663 = .ok (.iadd, 1) := by decide +kernel
theorem dL_law_664 : decode cL_law 664 = .ok (.iaload, 1) := by decide +kernel
theorem dL_law_665 : decode cL_law 665 = .ok (.aload_n 0, 1) := by decide +kernel
theorem dL_law_666 : decode cL_law 666 = .ok (.iload 4, 2) := by decide +kernel
theorem dL_law_668 : decode cL_law 668 = .ok (.iconst 2, 1) := by decide +kernel
theorem dL_law_669 : decode cL_law 669 = .ok (.iadd, 1) := by decide +kernel
theorem dL_law_670 : decode cL_law 670 = .ok (.iaload, 1) := by decide +kernel
theorem dL_law_671 : decode cL_law 671 = .ok (.invokevirtual 82, 3) := by decide +kernel
theorem dL_law_674 : decode cL_law 674 = .ok (.if_icmp .eq 292, 3) := by decide +kernel
theorem dL_law_677 : decode cL_law 677 = .ok (.iconst 0, 1) := by decide +kernel
theorem dL_law_678 : decode cL_law 678 = .ok (.ireturn, 1) := by decide +kernel
theorem dL_law_679 : decode cL_law 679 = .ok (.aload_n 1, 1) := by decide +kernel
theorem dL_law_680 : decode cL_law 680 = .ok (.aload_n 0, 1) := by decide +kernel
theorem dL_law_681 : decode cL_law 681 = .ok (.iload 4, 2) := by decide +kernel
theorem dL_law_683 : decode cL_law 683 = .ok (.iconst 1, 1) := by decide +kernel
theorem dL_law_684 : decode cL_law 684 = .ok (.iadd, 1) := by decide +kernel
theorem dL_law_685 : decode cL_law 685 = .ok (.iaload, 1) := by decide +kernel
theorem dL_law_686 : decode cL_law 686 = .ok (.aload_n 0, 1) := by decide +kernel
theorem dL_law_687 : decode cL_law 687 = .ok (.iload 4, 2) := by decide +kernel
theorem dL_law_689 : decode cL_law 689 = .ok (.iconst 2, 1) := by decide +kernel
theorem dL_law_690 : decode cL_law 690 = .ok (.iadd, 1) := by decide +kernel
theorem dL_law_691 : decode cL_law 691 = .ok (.iaload, 1) := by decide +kernel
theorem dL_law_692 : decode cL_law 692 = .ok (.aload_n 0, 1) := by decide +kernel
theorem dL_law_693 : decode cL_law 693 = .ok (.iload 4, 2) := by decide +kernel
theorem dL_law_695 : decode cL_law 695 = .ok (.iconst 3, 1) := by decide +kernel
theorem dL_law_696 : decode cL_law 696 = .ok (.iadd, 1) := by decide +kernel
theorem dL_law_697 : decode cL_law 697 = .ok (.iaload, 1) := by decide +kernel
theorem dL_law_698 : decode cL_law 698 = .ok (.invokevirtual 83, 3) := by decide +kernel
theorem dL_law_701 : decode cL_law 701 = .ok (.aload_n 2, 1) := by decide +kernel
theorem dL_law_702 : decode cL_law 702 = .ok (.aload_n 0, 1) := by decide +kernel
theorem dL_law_703 : decode cL_law 703 = .ok (.iload 4, 2) := by decide +kernel
theorem dL_law_705 : decode cL_law 705 = .ok (.iconst 1, 1) := by decide +kernel
theorem dL_law_706 : decode cL_law 706 = .ok (.iadd, 1) := by decide +kernel
theorem dL_law_707 : decode cL_law 707 = .ok (.iaload, 1) := by decide +kernel
theorem dL_law_708 : decode cL_law 708 = .ok (.aload_n 0, 1) := by decide +kernel
theorem dL_law_709 : decode cL_law 709 = .ok (.iload 4, 2) := by decide +kernel
theorem dL_law_711 : decode cL_law 711 = .ok (.iconst 2, 1) := by decide +kernel
theorem dL_law_712 : decode cL_law 712 = .ok (.iadd, 1) := by decide +kernel
theorem dL_law_713 : decode cL_law 713 = .ok (.iaload, 1) := by decide +kernel
theorem dL_law_714 : decode cL_law 714 = .ok (.aload_n 0, 1) := by decide +kernel
theorem dL_law_715 : decode cL_law 715 = .ok (.iload 4, 2) := by decide +kernel
theorem dL_law_717 : decode cL_law 717 = .ok (.iconst 3, 1) := by decide +kernel
theorem dL_law_718 : decode cL_law 718 = .ok (.iadd, 1) := by decide +kernel
theorem dL_law_719 : decode cL_law 719 = .ok (.iaload, 1) := by decide +kernel
theorem dL_law_720 : decode cL_law 720 = .ok (.invokevirtual 86, 3) := by decide +kernel
theorem dL_law_723 : decode cL_law 723 = .ok (.if_icmp .eq 243, 3) := by decide +kernel
theorem dL_law_726 : decode cL_law 726 = .ok (.iconst 0, 1) := by decide +kernel
theorem dL_law_727 : decode cL_law 727 = .ok (.ireturn, 1) := by decide +kernel
theorem dL_law_728 : decode cL_law 728 = .ok (.aload_n 1, 1) := by decide +kernel
theorem dL_law_729 : decode cL_law 729 = .ok (.aload_n 0, 1) := by decide +kernel
theorem dL_law_730 : decode cL_law 730 = .ok (.iload 4, 2) := by decide +kernel
theorem dL_law_732 : decode cL_law 732 = .ok (.iconst 1, 1) := by decide +kernel
theorem dL_law_733 : decode cL_law 733 = .ok (.iadd, 1) := by decide +kernel
theorem dL_law_734 : decode cL_law 734 = .ok (.iaload, 1) := by decide +kernel
theorem dL_law_735 : decode cL_law 735 = .ok (.aload_n 0, 1) := by decide +kernel
theorem dL_law_736 : decode cL_law 736 = .ok (.iload 4, 2) := by decide +kernel
theorem dL_law_738 : decode cL_law 738 = .ok (.iconst 2, 1) := by decide +kernel
theorem dL_law_739 : decode cL_law 739 = .ok (.iadd, 1) := by decide +kernel
theorem dL_law_740 : decode cL_law 740 = .ok (.iaload, 1) := by decide +kernel
theorem dL_law_741 : decode cL_law 741 = .ok (.aload_n 0, 1) := by decide +kernel
theorem dL_law_742 : decode cL_law 742 = .ok (.iload 4, 2) := by decide +kernel
theorem dL_law_744 : decode cL_law 744 = .ok (.iconst 3, 1) := by decide +kernel
theorem dL_law_745 : decode cL_law 745 = .ok (.iadd, 1) := by decide +kernel
theorem dL_law_746 : decode cL_law 746 = .ok (.iaload, 1) := by decide +kernel
theorem dL_law_747 : decode cL_law 747 = .ok (.invokevirtual 87, 3) := by decide +kernel
theorem dL_law_750 : decode cL_law 750 = .ok (.aload_n 2, 1) := by decide +kernel
theorem dL_law_751 : decode cL_law 751 = .ok (.aload_n 0, 1) := by decide +kernel
theorem dL_law_752 : decode cL_law 752 = .ok (.iload 4, 2) := by decide +kernel
theorem dL_law_754 : decode cL_law 754 = .ok (.iconst 1, 1) := by decide +kernel
theorem dL_law_755 : decode cL_law 755 = .ok (.iadd, 1) := by decide +kernel
theorem dL_law_756 : decode cL_law 756 = .ok (.iaload, 1) := by decide +kernel
theorem dL_law_757 : decode cL_law 757 = .ok (.aload_n 0, 1) := by decide +kernel
theorem dL_law_758 : decode cL_law 758 = .ok (.iload 4, 2) := by decide +kernel
theorem dL_law_760 : decode cL_law 760 = .ok (.iconst 2, 1) := by decide +kernel
theorem dL_law_761 : decode cL_law 761 = .ok (.iadd, 1) := by decide +kernel
theorem dL_law_762 : decode cL_law 762 = .ok (.iaload, 1) := by decide +kernel
theorem dL_law_763 : decode cL_law 763 = .ok (.aload_n 0, 1) := by decide +kernel
theorem dL_law_764 : decode cL_law 764 = .ok (.iload 4, 2) := by decide +kernel
theorem dL_law_766 : decode cL_law 766 = .ok (.iconst 3, 1) := by decide +kernel
theorem dL_law_767 : decode cL_law 767 = .ok (.iadd, 1) := by decide +kernel
theorem dL_law_768 : decode cL_law 768 = .ok (.iaload, 1) := by decide +kernel
theorem dL_law_769 : decode cL_law 769 = .ok (.invokevirtual 90, 3) := by decide +kernel
theorem dL_law_772 : decode cL_law 772 = .ok (.if_icmp .eq 194, 3) := by decide +kernel
theorem dL_law_775 : decode cL_law 775 = .ok (.iconst 0, 1) := by decide +kernel
theorem dL_law_776 : decode cL_law 776 = .ok (.ireturn, 1) := by decide +kernel
theorem dL_law_777 : decode cL_law 777 = .ok (.aload_n 1, 1) := by decide +kernel
theorem dL_law_778 : decode cL_law 778 = .ok (.aload_n 0, 1) := by decide +kernel
theorem dL_law_779 : decode cL_law 779 = .ok (.iload 4, 2) := by decide +kernel
theorem dL_law_781 : decode cL_law 781 = .ok (.iconst 1, 1) := by decide +kernel
theorem dL_law_782 : decode cL_law 782 = .ok (.iadd, 1) := by decide +kernel
theorem dL_law_783 : decode cL_law 783 = .ok (.iaload, 1) := by decide +kernel
theorem dL_law_784 : decode cL_law 784 = .ok (.aload_n 0, 1) := by decide +kernel
theorem dL_law_785 : decode cL_law 785 = .ok (.iload 4, 2) := by decide +kernel
theorem dL_law_787 : decode cL_law 787 = .ok (.iconst 2, 1) := by decide +kernel
theorem dL_law_788 : decode cL_law 788 = .ok (.iadd, 1) := by decide +kernel
theorem dL_law_789 : decode cL_law 789 = .ok (.iaload, 1) := by decide +kernel
theorem dL_law_790 : decode cL_law 790 = .ok (.ifCond .eq 7, 3) := by decide +kernel
theorem dL_law_793 : decode cL_law 793 = .ok (.iconst 1, 1) := by decide +kernel
theorem dL_law_794 : decode cL_law 794 = .ok (.goto 4, 3) := by decide +kernel
theorem dL_law_797 : decode cL_law 797 = .ok (.iconst 0, 1) := by decide +kernel
theorem dL_law_798 : decode cL_law 798 = .ok (.aload_n 0, 1) := by decide +kernel
theorem dL_law_799 : decode cL_law 799 = .ok (.iload 4, 2) := by decide +kernel
theorem dL_law_801 : decode cL_law 801 = .ok (.iconst 3, 1) := by decide +kernel
theorem dL_law_802 : decode cL_law 802 = .ok (.iadd, 1) := by decide +kernel
theorem dL_law_803 : decode cL_law 803 = .ok (.iaload, 1) := by decide +kernel
theorem dL_law_804 : decode cL_law 804 = .ok (.aload_n 0, 1) := by decide +kernel
theorem dL_law_805 : decode cL_law 805 = .ok (.iload 4, 2) := by decide +kernel
theorem dL_law_807 : decode cL_law 807 = .ok (.iconst 4, 1) := by decide +kernel
theorem dL_law_808 : decode cL_law 808 = .ok (.iadd, 1) := by decide +kernel
theorem dL_law_809 : decode cL_law 809 = .ok (.iaload, 1) := by decide +kernel
theorem dL_law_810 : decode cL_law 810 = .ok (.aload_n 0, 1) := by decide +kernel
theorem dL_law_811 : decode cL_law 811 = .ok (.iload 4, 2) := by decide +kernel
theorem dL_law_813 : decode cL_law 813 = .ok (.iconst 5, 1) := by decide +kernel
theorem dL_law_814 : decode cL_law 814 = .ok (.iadd, 1) := by decide +kernel
theorem dL_law_815 : decode cL_law 815 = .ok (.iaload, 1) := by decide +kernel
theorem dL_law_816 : decode cL_law 816 = .ok (.invokevirtual 91, 3) := by decide +kernel
theorem dL_law_819 : decode cL_law 819 = .ok (.aload_n 2, 1) := by decide +kernel
theorem dL_law_820 : decode cL_law 820 = .ok (.aload_n 0, 1) := by decide +kernel
theorem dL_law_821 : decode cL_law 821 = .ok (.iload 4, 2) := by decide +kernel
theorem dL_law_823 : decode cL_law 823 = .ok (.iconst 1, 1) := by decide +kernel
theorem dL_law_824 : decode cL_law 824 = .ok (.iadd, 1) := by decide +kernel
theorem dL_law_825 : decode cL_law 825 = .ok (.iaload, 1) := by decide +kernel
theorem dL_law_826 : decode cL_law 826 = .ok (.aload_n 0, 1) := by decide +kernel
theorem dL_law_827 : decode cL_law 827 = .ok (.iload 4, 2) := by decide +kernel
theorem dL_law_829 : decode cL_law 829 = .ok (.iconst 2, 1) := by decide +kernel
theorem dL_law_830 : decode cL_law 830 = .ok (.iadd, 1) := by decide +kernel
theorem dL_law_831 : decode cL_law 831 = .ok (.iaload, 1) := by decide +kernel
theorem dL_law_832 : decode cL_law 832 = .ok (.ifCond .eq 7, 3) := by decide +kernel
theorem dL_law_835 : decode cL_law 835 = .ok (.iconst 1, 1) := by decide +kernel
theorem dL_law_836 : decode cL_law 836 = .ok (.goto 4, 3) := by decide +kernel
theorem dL_law_839 : decode cL_law 839 = .ok (.iconst 0, 1) := by decide +kernel
theorem dL_law_840 : decode cL_law 840 = .ok (.aload_n 0, 1) := by decide +kernel
theorem dL_law_841 : decode cL_law 841 = .ok (.iload 4, 2) := by decide +kernel
theorem dL_law_843 : decode cL_law 843 = .ok (.iconst 3, 1) := by decide +kernel
theorem dL_law_844 : decode cL_law 844 = .ok (.iadd, 1) := by decide +kernel
theorem dL_law_845 : decode cL_law 845 = .ok (.iaload, 1) := by decide +kernel
theorem dL_law_846 : decode cL_law 846 = .ok (.aload_n 0, 1) := by decide +kernel
theorem dL_law_847 : decode cL_law 847 = .ok (.iload 4, 2) := by decide +kernel
theorem dL_law_849 : decode cL_law 849 = .ok (.iconst 4, 1) := by decide +kernel
theorem dL_law_850 : decode cL_law 850 = .ok (.iadd, 1) := by decide +kernel
theorem dL_law_851 : decode cL_law 851 = .ok (.iaload, 1) := by decide +kernel
theorem dL_law_852 : decode cL_law 852 = .ok (.aload_n 0, 1) := by decide +kernel
theorem dL_law_853 : decode cL_law 853 = .ok (.iload 4, 2) := by decide +kernel
theorem dL_law_855 : decode cL_law 855 = .ok (.iconst 5, 1) := by decide +kernel
theorem dL_law_856 : decode cL_law 856 = .ok (.iadd, 1) := by decide +kernel
theorem dL_law_857 : decode cL_law 857 = .ok (.iaload, 1) := by decide +kernel
theorem dL_law_858 : decode cL_law 858 = .ok (.invokevirtual 95, 3) := by decide +kernel
theorem dL_law_861 : decode cL_law 861 = .ok (.if_icmp .eq 105, 3) := by decide +kernel
theorem dL_law_864 : decode cL_law 864 = .ok (.iconst 0, 1) := by decide +kernel
theorem dL_law_865 : decode cL_law 865 = .ok (.ireturn, 1) := by decide +kernel
theorem dL_law_866 : decode cL_law 866 = .ok (.aload_n 1, 1) := by decide +kernel
theorem dL_law_867 : decode cL_law 867 = .ok (.aload_n 0, 1) := by decide +kernel
theorem dL_law_868 : decode cL_law 868 = .ok (.iload 4, 2) := by decide +kernel
theorem dL_law_870 : decode cL_law 870 = .ok (.iconst 1, 1) := by decide +kernel
theorem dL_law_871 : decode cL_law 871 = .ok (.iadd, 1) := by decide +kernel
theorem dL_law_872 : decode cL_law 872 = .ok (.iaload, 1) := by decide +kernel
theorem dL_law_873 : decode cL_law 873 = .ok (.invokevirtual 96, 3) := by decide +kernel
theorem dL_law_876 : decode cL_law 876 = .ok (.aload_n 2, 1) := by decide +kernel
theorem dL_law_877 : decode cL_law 877 = .ok (.aload_n 0, 1) := by decide +kernel
theorem dL_law_878 : decode cL_law 878 = .ok (.iload 4, 2) := by decide +kernel
theorem dL_law_880 : decode cL_law 880 = .ok (.iconst 1, 1) := by decide +kernel
theorem dL_law_881 : decode cL_law 881 = .ok (.iadd, 1) := by decide +kernel
theorem dL_law_882 : decode cL_law 882 = .ok (.iaload, 1) := by decide +kernel
theorem dL_law_883 : decode cL_law 883 = .ok (.invokevirtual 99, 3) := by decide +kernel
theorem dL_law_886 : decode cL_law 886 = .ok (.if_icmp .eq 80, 3) := by decide +kernel
theorem dL_law_889 : decode cL_law 889 = .ok (.iconst 0, 1) := by decide +kernel
theorem dL_law_890 : decode cL_law 890 = .ok (.ireturn, 1) := by decide +kernel
theorem dL_law_891 : decode cL_law 891 = .ok (.aload_n 1, 1) := by decide +kernel
theorem dL_law_892 : decode cL_law 892 = .ok (.aload_n 0, 1) := by decide +kernel
theorem dL_law_893 : decode cL_law 893 = .ok (.iload 4, 2) := by decide +kernel
theorem dL_law_895 : decode cL_law 895 = .ok (.iconst 1, 1) := by decide +kernel
theorem dL_law_896 : decode cL_law 896 = .ok (.iadd, 1) := by decide +kernel
theorem dL_law_897 : decode cL_law 897 = .ok (.iaload, 1) := by decide +kernel
theorem dL_law_898 : decode cL_law 898 = .ok (.aload_n 0, 1) := by decide +kernel
theorem dL_law_899 : decode cL_law 899 = .ok (.iload 4, 2) := by decide +kernel
theorem dL_law_901 : decode cL_law 901 = .ok (.iconst 2, 1) := by decide +kernel
theorem dL_law_902 : decode cL_law 902 = .ok (.iadd, 1) := by decide +kernel
theorem dL_law_903 : decode cL_law 903 = .ok (.iaload, 1) := by decide +kernel
theorem dL_law_904 : decode cL_law 904 = .ok (.aload_n 0, 1) := by decide +kernel
theorem dL_law_905 : decode cL_law 905 = .ok (.iload 4, 2) := by decide +kernel
theorem dL_law_907 : decode cL_law 907 = .ok (.iconst 3, 1) := by decide +kernel
theorem dL_law_908 : decode cL_law 908 = .ok (.iadd, 1) := by decide +kernel
theorem dL_law_909 : decode cL_law 909 = .ok (.iaload, 1) := by decide +kernel
theorem dL_law_910 : decode cL_law 910 = .ok (.invokevirtual 100, 3) := by decide +kernel
theorem dL_law_913 : decode cL_law 913 = .ok (.aload_n 2, 1) := by decide +kernel
theorem dL_law_914 : decode cL_law 914 = .ok (.aload_n 0, 1) := by decide +kernel
theorem dL_law_915 : decode cL_law 915 = .ok (.iload 4, 2) := by decide +kernel
theorem dL_law_917 : decode cL_law 917 = .ok (.iconst 1, 1) := by decide +kernel
theorem dL_law_918 : decode cL_law 918 = .ok (.iadd, 1) := by decide +kernel
theorem dL_law_919 : decode cL_law 919 = .ok (.iaload, 1) := by decide +kernel
theorem dL_law_920 : decode cL_law 920 = .ok (.aload_n 0, 1) := by decide +kernel
theorem dL_law_921 : decode cL_law 921 = .ok (.iload 4, 2) := by decide +kernel
theorem dL_law_923 : decode cL_law 923 = .ok (.iconst 2, 1) := by decide +kernel
theorem dL_law_924 : decode cL_law 924 = .ok (.iadd, 1) := by decide +kernel
theorem dL_law_925 : decode cL_law 925 = .ok (.iaload, 1) := by decide +kernel
theorem dL_law_926 : decode cL_law 926 = .ok (.aload_n 0, 1) := by decide +kernel
theorem dL_law_927 : decode cL_law 927 = .ok (.iload 4, 2) := by decide +kernel
theorem dL_law_929 : decode cL_law 929 = .ok (.iconst 3, 1) := by decide +kernel
theorem dL_law_930 : decode cL_law 930 = .ok (.iadd, 1) := by decide +kernel
theorem dL_law_931 : decode cL_law 931 = .ok (.iaload, 1) := by decide +kernel
theorem dL_law_932 : decode cL_law 932 = .ok (.invokevirtual 103, 3) := by decide +kernel
theorem dL_law_935 : decode cL_law 935 = .ok (.if_icmp .eq 31, 3) := by decide +kernel
theorem dL_law_938 : decode cL_law 938 = .ok (.iconst 0, 1) := by decide +kernel
theorem dL_law_939 : decode cL_law 939 = .ok (.ireturn, 1) := by decide +kernel
theorem dL_law_940 : decode cL_law 940 = .ok (.aload_n 1, 1) := by decide +kernel
theorem dL_law_941 : decode cL_law 941 = .ok (.invokevirtual 104, 3) := by decide +kernel
theorem dL_law_944 : decode cL_law 944 = .ok (.aload_n 2, 1) := by decide +kernel
theorem dL_law_945 : decode cL_law 945 = .ok (.invokevirtual 107, 3) := by decide +kernel
theorem dL_law_948 : decode cL_law 948 = .ok (.if_icmp .eq 18, 3) := by decide +kernel
theorem dL_law_951 : decode cL_law 951 = .ok (.iconst 0, 1) := by decide +kernel
theorem dL_law_952 : decode cL_law 952 = .ok (.ireturn, 1) := by decide +kernel
theorem dL_law_953 : decode cL_law 953 = .ok (.aload_n 1, 1) := by decide +kernel
theorem dL_law_954 : decode cL_law 954 = .ok (.invokevirtual 108, 3) := by decide +kernel
theorem dL_law_957 : decode cL_law 957 = .ok (.aload_n 2, 1) := by decide +kernel
theorem dL_law_958 : decode cL_law 958 = .ok (.invokevirtual 111, 3) := by decide +kernel
theorem dL_law_961 : decode cL_law 961 = .ok (.if_icmp .eq 5, 3) := by decide +kernel
theorem dL_law_964 : decode cL_law 964 = .ok (.iconst 0, 1) := by decide +kernel
theorem dL_law_965 : decode cL_law 965 = .ok (.ireturn, 1) := by decide +kernel
theorem dL_law_966 : decode cL_law 966 = .ok (.iinc 4 6, 3) := by decide +kernel
theorem dL_law_969 : decode cL_law 969 = .ok (.goto (-946), 3) := by decide +kernel
theorem dL_law_972 : decode cL_law 972 = .ok (.iconst 1, 1) := by decide +kernel
theorem dL_law_973 : decode cL_law 973 = .ok (.ireturn, 1) := by decide +kernel
