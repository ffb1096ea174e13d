theorem dX9_upTo_14 : decode cX9_upTo 14 = .ok (.iadd, 1) := by decide +kernel
theorem dX9_upTo_15 : decode cX9_upTo 15 = .ok (.istore_n 3, 1) := by decide +kernel
theorem dX9_upTo_16 : decode cX9_upTo 16 = .ok (.iload_n 2, 1) := by decide +kernel
theorem dX9_upTo_17 : decode cX9_upTo 17 = .ok (.aload_n 0, 1) := by decide +kernel
theorem dX9_upTo_18 : decode cX9_upTo 18 = .ok (.iload_n 1, 1) := by decide +kernel
theorem dX9_upTo_19 : decode cX9_upTo 19 = .ok (.iconst 3, 1) := by decide +kernel
theorem dX9_upTo_20 : decode cX9_upTo 20 = .ok (.invokevirtual 179, 3) := by decide +kernel
theorem dX9_upTo_23 : decode cX9_upTo 23 = .ok (.isub, 1) := by decide +kernel
theorem dX9_upTo_24 : decode cX9_upTo 24 = .ok (.iconst 1, 1) := by decide +kernel
theorem dX9_upTo_25 : decode cX9_upTo 25 = .ok (.iadd, 1) := by decide +kernel
theorem dX9_upTo_26 : decode cX9_upTo 26 = .ok (.istore 4, 2) := by decide +kernel
theorem dX9_upTo_28 : decode cX9_upTo 28 = .ok (.iload 4, 2) := by decide +kernel
theorem dX9_upTo_30 : decode cX9_upTo 30 = .ok (.ifCond .gt 7, 3) := by decide +kernel
theorem dX9_upTo_33 : decode cX9_upTo 33 = .ok (.iconst 0, 1) := by decide +kernel
theorem dX9_upTo_34 : decode cX9_upTo 34 = .ok (.goto 33, 3) := by decide +kernel
theorem dX9_upTo_37 : decode cX9_upTo 37 = .ok (.iload 4, 2) := by decide +kernel
theorem dX9_upTo_39 : decode cX9_upTo 39 = .ok (.iload_n 3, 1) := by decide +kernel
theorem dX9_upTo_40 : decode cX9_upTo 40 = .ok (.if_icmp .lt 12, 3) := by decide +kernel
theorem dX9_upTo_43 : decode cX9_upTo 43 = .ok (.aload_n 0, 1) := by decide +kernel
theorem dX9_upTo_44 : decode cX9_upTo 44 = .ok (.iload_n 1, 1) := by decide +kernel
theorem dX9_upTo_45 : decode cX9_upTo 45 = .ok (.iconst 2, 1) := by decide +kernel
theorem dX9_upTo_46 : decode cX9_upTo 46 = .ok (.invokevirtual 179, 3) := by decide +kernel
theorem dX9_upTo_49 : decode cX9_upTo 49 = .ok (.goto 18, 3) := by decide +kernel
theorem dX9_upTo_52 : decode cX9_upTo 52 = .ok (.aload_n 0, 1) := by decide +kernel
theorem dX9_upTo_53 : decode cX9_upTo 53 = .ok (.iload_n 1, 1) := by decide +kernel
theorem dX9_upTo_54 : decode cX9_upTo 54 = .ok (.iconst 2, 1) := by decide +kernel
theorem dX9_upTo_55 : decode cX9_upTo 55 = .ok (.invokevirtual 179, 3) := by decide +kernel
theorem dX9_upTo_58 : decode cX9_upTo 58 = .ok (.i2l, 1) := by decide +kernel
theorem dX9_upTo_59 : decode cX9_upTo 59 = .ok (.iload 4, 2) := by decide +kernel
theorem dX9_upTo_61 : decode cX9_upTo 61 = .ok (.i2l, 1) := by decide +kernel
theorem dX9_upTo_62 : decode cX9_upTo 62 = .ok (.lmul, 1) := by decide +kernel
theorem dX9_upTo_63 : decode cX9_upTo 63 = .ok (.iload_n 3, 1) := by decide +kernel
theorem dX9_upTo_64 : decode cX9_upTo 64 = .ok (.i2l, 1) := by decide +kernel
theorem dX9_upTo_65 : decode cX9_upTo 65 = .ok (.ldiv, 1) := by decide +kernel
theorem dX9_upTo_66 : decode cX9_upTo 66 = .ok (.l2i, 1) := by decide +kernel
theorem dX9_upTo_67 : decode cX9_upTo 67 = .ok (.ireturn, 1) := by decide +kernel
theorem dX9_part_0 : decode cX9_part 0 = .ok (.aload_n 0, 1) := by decide +kernel
theorem dX9_part_1 : decode cX9_part 1 = .ok (.iload_n 1, 1) := by decide +kernel
theorem dX9_part_2 : decode cX9_part 2 = .ok (.iload_n 2, 1) := by decide +kernel
theorem dX9_part_3 : decode cX9_part 3 = .ok (.invokevirtual 183, 3) := by decide +kernel
theorem dX9_part_6 : decode cX9_part 6 = .ok (.aload_n 0, 1) := by decide +kernel
theorem dX9_part_7 : decode cX9_part 7 = .ok (.iload_n 1, 1) := by decide +kernel
theorem dX9_part_8 : decode cX9_part 8 = .ok (.iload_n 2, 1) := by decide +kernel
theorem dX9_part_9 : decode cX9_part 9 = .ok (.iconst 1, 1) := by decide +kernel
theorem dX9_part_10 : decode cX9_part 10 = .ok (.isub, 1) := by decide +kernel
theorem dX9_part_11 : decode cX9_part 11 = .ok (.invokevirtual 183, 3) := by decide +kernel
theorem dX9_part_14 : decode cX9_part 14 = .ok (.isub, 1) := by decide +kernel
theorem dX9_part_15 : decode cX9_part 15 = .ok (.ireturn, 1) := by decide +kernel
theorem dX9_openOf_0 : decode cX9_openOf 0 = .ok (.aload_n 0, 1) := by decide +kernel
theorem dX9_openOf_1 : decode cX9_openOf 1 = .ok (.iload_n 1, 1) := by decide +kernel
theorem dX9_openOf_2 : decode cX9_openOf 2 = .ok (.iconst 2, 1) := by decide +kernel
theorem dX9_openOf_3 : decode cX9_openOf 3 = .ok (.invokevirtual 179, 3) := by decide +kernel
theorem dX9_openOf_6 : decode cX9_openOf 6 = .ok (.aload_n 0, 1) := by decide +kernel
theorem dX9_openOf_7 : decode cX9_openOf 7 = .ok (.iload_n 1, 1) := by decide +kernel
theorem dX9_openOf_8 : decode cX9_openOf 8 = .ok (.aload_n 0, 1) := by decide +kernel
theorem dX9_openOf_9 : decode cX9_openOf 9 = .ok (.getfield 74, 3) := by decide +kernel
theorem dX9_openOf_12 : decode cX9_openOf 12 = .ok (.iconst 0, 1) := by decide +kernel
theorem dX9_openOf_13 : decode cX9_openOf 13 = .ok (.iaload, 1) := by decide +kernel
theorem dX9_openOf_14 : decode cX9_openOf 14 = .ok (.invokevirtual 183, 3) := by decide +kernel
theorem dX9_openOf_17 : decode cX9_openOf 17 = .ok (.isub, 1) := by decide +kernel
theorem dX9_openOf_18 : decode cX9_openOf 18 = .ok (.ireturn, 1) := by decide +kernel
theorem dX9_partsOf_0 : decode cX9_partsOf 0 = .ok (.iconst 0, 1) := by decide +kernel
theorem dX9_partsOf_1 : decode cX9_partsOf 1 = .ok (.istore 4, 2) := by decide +kernel
theorem dX9_partsOf_3 : decode cX9_partsOf 3 = .ok (.iconst 0, 1) := by decide +kernel
theorem dX9_partsOf_4 : decode cX9_partsOf 4 = .ok (.istore 5, 2) := by decide +kernel
theorem dX9_partsOf_6 : decode cX9_partsOf 6 = .ok (.iload 5, 2) := by decide +kernel
theorem dX9_partsOf_8 : decode cX9_partsOf 8 = .ok (.aload_n 0, 1) := by decide +kernel
theorem dX9_partsOf_9 : decode cX9_partsOf 9 = .ok (.getfield 74, 3) := by decide +kernel
theorem dX9_partsOf_12 : decode cX9_partsOf 12 = .ok (.iconst 3, 1) := by decide +kernel
theorem dX9_partsOf_13 : decode cX9_partsOf 13 = .ok (.iaload, 1) := by decide +kernel
theorem dX9_partsOf_14 : decode cX9_partsOf 14 = .ok (.if_icmp .ge 43, 3) := by decide +kernel
theorem dX9_partsOf_17 : decode cX9_partsOf 17 = .ok (.aload_n 0, 1) := by decide +kernel
theorem dX9_partsOf_18 : decode cX9_partsOf 18 = .ok (.iload 5, 2) := by decide +kernel
theorem dX9_partsOf_20 : decode cX9_partsOf 20 = .ok (.iconst 0, 1) := by decide +kernel
theorem dX9_partsOf_21 : decode cX9_partsOf 21 = .ok (.invokevirtual 179, 3) := by decide +kernel
theorem dX9_partsOf_24 : decode cX9_partsOf 24 = .ok (.iload_n 1, 1) := by decide +kernel
theorem dX9_partsOf_25 : decode cX9_partsOf 25 = .ok (.if_icmp .ne 26, 3) := by decide +kernel
theorem dX9_partsOf_28 : decode cX9_partsOf 28 = .ok (.aload_n 0, 1) := by decide +kernel
theorem dX9_partsOf_29 : decode cX9_partsOf 29 = .ok (.iload 5, 2) := by decide +kernel
theorem dX9_partsOf_31 : decode cX9_partsOf 31 = .ok (.iconst 1, 1) := by decide +kernel
theorem dX9_partsOf_32 : decode cX9_partsOf 32 = .ok (.invokevirtual 179, 3) := by decide +kernel
theorem dX9_partsOf_35 : decode cX9_partsOf 35 = .ok (.iload_n 3, 1) := by decide +kernel
theorem dX9_partsOf_36 : decode cX9_partsOf 36 = .ok (.if_icmp .ne 15, 3) := by decide +kernel
theorem dX9_partsOf_39 : decode cX9_partsOf 39 = .ok (.iload 4, 2) := by decide +kernel
theorem dX9_partsOf_41 : decode cX9_partsOf 41 = .ok (.aload_n 0, 1) := by decide +kernel
theorem dX9_partsOf_42 : decode cX9_partsOf 42 = .ok (.iload 5, 2) := by decide +kernel
theorem dX9_partsOf_44 : decode cX9_partsOf 44 = .ok (.iload_n 2, 1) := by decide +kernel
theorem dX9_partsOf_45 : decode cX9_partsOf 45 = .ok (.invokevirtual 186, 3) := by decide +kernel
theorem dX9_partsOf_48 : decode cX9_partsOf 48 = .ok (.iadd, 1) := by decide +kernel
theorem dX9_partsOf_49 : decode cX9_partsOf 49 = .ok (.istore 4, 2) := by decide +kernel
theorem dX9_partsOf_51 : decode cX9_partsOf 51 = .ok (.iinc 5 1, 3) := by decide +kernel
theorem dX9_partsOf_54 : decode cX9_partsOf 54 = .ok (.goto (-48), 3) := by decide +kernel
theorem dX9_partsOf_57 : decode cX9_partsOf 57 = .ok (.iload 4, 2) := by decide +kernel
theorem dX9_partsOf_59 : decode cX9_partsOf 59 = .ok (.ireturn, 1) := by decide +kernel
theorem dX9_rateOf_0 : decode cX9_rateOf 0 = .ok (.aload_n 0, 1) := by decide +kernel
theorem dX9_rateOf_1 : decode cX9_rateOf 1 = .ok (.getfield 74, 3) := by decide +kernel
theorem dX9_rateOf_4 : decode cX9_rateOf 4 = .ok (.iconst 5, 1) := by decide +kernel
theorem dX9_rateOf_5 : decode cX9_rateOf 5 = .ok (.bipush 40, 2) := by decide +kernel
theorem dX9_rateOf_7 : decode cX9_rateOf 7 = .ok (.iload_n 1, 1) := by decide +kernel
theorem dX9_rateOf_8 : decode cX9_rateOf 8 = .ok (.imul, 1) := by decide +kernel
theorem dX9_rateOf_9 : decode cX9_rateOf 9 = .ok (.iadd, 1) := by decide +kernel
theorem dX9_rateOf_10 : decode cX9_rateOf 10 = .ok (.iload_n 2, 1) := by decide +kernel
theorem dX9_rateOf_11 : decode cX9_rateOf 11 = .ok (.iadd, 1) := by decide +kernel
theorem dX9_rateOf_12 : decode cX9_rateOf 12 = .ok (.iaload, 1) := by decide +kernel
theorem dX9_rateOf_13 : decode cX9_rateOf 13 = .ok (.ireturn, 1) := by decide +kernel
theorem dX9_profitOf_0 : decode cX9_profitOf 0 = .ok (.aload_n 0, 1) := by decide +kernel
theorem dX9_profitOf_1 : decode cX9_profitOf 1 = .ok (.getfield 74, 3) := by decide +kernel
theorem dX9_profitOf_4 : decode cX9_profitOf 4 = .ok (.bipush 125, 2) := by decide +kernel
theorem dX9_profitOf_6 : decode cX9_profitOf 6 = .ok (.bipush 40, 2) := by decide +kernel
theorem dX9_profitOf_8 : decode cX9_profitOf 8 = .ok (.iload_n 1, 1) := by decide +kernel
theorem dX9_profitOf_9 : decode cX9_profitOf 9 = .ok (.imul, 1) := by decide +kernel
theorem dX9_profitOf_10 : decode cX9_profitOf 10 = .ok (.iadd, 1) := by decide +kernel
theorem dX9_profitOf_11 : decode cX9_profitOf 11 = .ok (.iload_n 2, 1) := by decide +kernel
theorem dX9_profitOf_12 : decode cX9_profitOf 12 = .ok (.iadd, 1) := by decide +kernel
theorem dX9_profitOf_13 : decode cX9_profitOf 13 = .ok (.iaload, 1) := by decide +kernel
theorem dX9_profitOf_14 : decode cX9_profitOf 14 = .ok (.ireturn, 1) := by decide +kernel
theorem dX9_nextLoss_0 : decode cX9_nextLoss 0 = .ok (.iconst (-1), 1) := by decide +kernel
theorem dX9_nextLoss_1 : decode cX9_nextLoss 1 = .ok (.istore_n 2, 1) := by decide +kernel
theorem dX9_nextLoss_2 : decode cX9_nextLoss 2 = .ok (.iconst 0, 1) := by decide +kernel
theorem dX9_nextLoss_3 : decode cX9_nextLoss 3 = .ok (.istore_n 3, 1) := by decide +kernel
theorem dX9_nextLoss_4 : decode cX9_nextLoss 4 = .ok (.iload_n 3, 1) := by decide +kernel
theorem dX9_nextLoss_5 : decode cX9_nextLoss 5 = .ok (.bipush 50, 2) := by decide +kernel
theorem dX9_nextLoss_7 : decode cX9_nextLoss 7 = .ok (.if_icmp .ge 50, 3) := by decide +kernel
theorem dX9_nextLoss_10 : decode cX9_nextLoss 10 = .ok (.aload_n 0, 1) := by decide +kernel
theorem dX9_nextLoss_11 : decode cX9_nextLoss 11 = .ok (.getfield 83, 3) := by decide +kernel
theorem dX9_nextLoss_14 : decode cX9_nextLoss 14 = .ok (.iload_n 3, 1) := by decide +kernel
theorem dX9_nextLoss_15 : decode cX9_nextLoss 15 = .ok (.iaload, 1) := by decide +kernel
theorem dX9_nextLoss_16 : decode cX9_nextLoss 16 = .ok (.ifCond .le 35, 3) := by decide +kernel
theorem dX9_nextLoss_19 : decode cX9_nextLoss 19 = .ok (.aload_n 0, 1) := by decide +kernel
theorem dX9_nextLoss_20 : decode cX9_nextLoss 20 = .ok (.getfield 86, 3) := by decide +kernel
theorem dX9_nextLoss_23 : decode cX9_nextLoss 23 = .ok (.iload_n 3, 1) := by decide +kernel
theorem dX9_nextLoss_24 : decode cX9_nextLoss 24 = .ok (.iaload, 1) := by decide +kernel
theorem dX9_nextLoss_25 : decode cX9_nextLoss 25 = .ok (.iload_n 1, 1) := by decide +kernel
theorem dX9_nextLoss_26 : decode cX9_nextLoss 26 = .ok (.if_icmp .lt 25, 3) := by decide +kernel
theorem dX9_nextLoss_29 : decode cX9_nextLoss 29 = .ok (.iload_n 2, 1) := by decide +kernel
theorem dX9_nextLoss_30 : decode cX9_nextLoss 30 = .ok (.iconst (-1), 1) := by decide +kernel
theorem dX9_nextLoss_31 : decode cX9_nextLoss 31 = .ok (.if_icmp .eq 18, 3) := by decide +kernel
theorem dX9_nextLoss_34 : decode cX9_nextLoss 34 = .ok (.aload_n 0, 1) := by decide +kernel
theorem dX9_nextLoss_35 : decode cX9_nextLoss 35 = .ok (.getfield 86, 3) := by decide +kernel
theorem dX9_nextLoss_38 : decode cX9_nextLoss 38 = .ok (.iload_n 3, 1) := by decide +kernel
theorem dX9_nextLoss_39 : decode cX9_nextLoss 39 = .ok (.iaload, 1) := by decide +kernel
theorem dX9_nextLoss_40 : decode cX9_nextLoss 40 = .ok (.aload_n 0, 1) := by decide +kernel
theorem dX9_nextLoss_41 : decode cX9_nextLoss 41 = .ok (.getfield 86, 3) := by decide +kernel
theorem dX9_nextLoss_44 : decode cX9_nextLoss 44 = .ok (.iload_n 2, 1) := by decide +kernel
theorem dX9_nextLoss_45 : decode cX9_nextLoss 45 = .ok (.iaload, 1) := by decide +kernel
theorem dX9_nextLoss_46 : decode cX9_nextLoss 46 = .ok (.if_icmp .ge 5, 3) := by decide +kernel
theorem dX9_nextLoss_49 : decode cX9_nextLoss 49 = .ok (.iload_n 3, 1) := by decide +kernel
theorem dX9_nextLoss_50 : decode cX9_nextLoss 50 = .ok (.istore_n 2, 1) := by decide +kernel
theorem dX9_nextLoss_51 : decode cX9_nextLoss 51 = .ok (.iinc 3 1, 3) := by decide +kernel
theorem dX9_nextLoss_54 : decode cX9_nextLoss 54 = .ok (.goto (-50), 3) := by decide +kernel
theorem dX9_nextLoss_57 : decode cX9_nextLoss 57 = .ok (.iload_n 2, 1) := by decide +kernel
theorem dX9_nextLoss_58 : decode cX9_nextLoss 58 = .ok (.ireturn, 1) := by decide +kernel
theorem dX9_sweeps_0 : decode cX9_sweeps 0 = .ok (.iconst 0, 1) := by decide +kernel
theorem dX9_sweeps_1 : decode cX9_sweeps 1 = .ok (.istore 4, 2) := by decide +kernel
theorem dX9_sweeps_3 : decode cX9_sweeps 3 = .ok (.iload 4, 2) := by decide +kernel
theorem dX9_sweeps_5 : decode cX9_sweeps 5 = .ok (.bipush 50, 2) := by decide +kernel
theorem dX9_sweeps_7 : decode cX9_sweeps 7 = .ok (.if_icmp .ge 84, 3) := by decide +kernel
theorem dX9_sweeps_10 : decode cX9_sweeps 10 = .ok (.iload 4, 2) := by decide +kernel
theorem dX9_sweeps_12 : decode cX9_sweeps 12 = .ok (.aload_n 0, 1) := by decide +kernel
theorem dX9_sweeps_13 : decode cX9_sweeps 13 = .ok (.getfield 74, 3) := by decide +kernel
theorem dX9_sweeps_16 : decode cX9_sweeps 16 = .ok (.iconst 4, 1) := by decide +kernel
theorem dX9_sweeps_17 : decode cX9_sweeps 17 = .ok (.iaload, 1) := by decide +kernel
theorem dX9_sweeps_18 : decode cX9_sweeps 18 = .ok (.if_icmp .ge 18, 3) := by decide +kernel
theorem dX9_sweeps_21 : decode cX9_sweeps 21 = .ok (.aload_n 0, 1) := by decide +kernel
theorem dX9_sweeps_22 : decode cX9_sweeps 22 = .ok (.iload 4, 2) := by decide +kernel
theorem dX9_sweeps_24 : decode cX9_sweeps 24 = .ok (.iconst 0, 1) := by decide +kernel
theorem dX9_sweeps_25 : decode cX9_sweeps 25 = .ok (.invokevirtual 189, 3) := by decide +kernel
theorem dX9_sweeps_28 : decode cX9_sweeps 28 = .ok (.iload_n 1, 1) := by decide +kernel
theorem dX9_sweeps_29 : decode cX9_sweeps 29 = .ok (.if_icmp .ne 7, 3) := by decide +kernel
theorem dX9_sweeps_32 : decode cX9_sweeps 32 = .ok (.iconst 1, 1) := by decide +kernel
theorem dX9_sweeps_33 : decode cX9_sweeps 33 = .ok (.goto 4, 3) := by decide +kernel
theorem dX9_sweeps_36 : decode cX9_sweeps 36 = .ok (.iconst 0, 1) := by decide +kernel
theorem dX9_sweeps_37 : decode cX9_sweeps 37 = .ok (.istore 5, 2) := by decide +kernel
theorem dX9_sweeps_39 : decode cX9_sweeps 39 = .ok (.aload_n 0, 1) := by decide +kernel
theorem dX9_sweeps_40 : decode cX9_sweeps 40 = .ok (.getfield 83, 3) := by decide +kernel
theorem dX9_sweeps_43 : decode cX9_sweeps 43 = .ok (.iload 4, 2) := by decide +kernel
theorem dX9_sweeps_45 : decode cX9_sweeps 45 = .ok (.iload 5, 2) := by decide +kernel
theorem dX9_sweeps_47 : decode cX9_sweeps 47 = .ok (.ifCond .eq 13, 3) := by decide +kernel
theorem dX9_sweeps_50 : decode cX9_sweeps 50 = .ok (.aload_n 0, 1) := by decide +kernel
theorem dX9_sweeps_51 : decode cX9_sweeps 51 = .ok (.iload 4, 2) := by decide +kernel
theorem dX9_sweeps_53 : decode cX9_sweeps 53 = .ok (.iconst 3, 1) := by decide +kernel
theorem dX9_sweeps_54 : decode cX9_sweeps 54 = .ok (.invokevirtual 189, 3) := by decide +kernel
theorem dX9_sweeps_57 : decode cX9_sweeps 57 = .ok (.goto 4, 3) := by decide +kernel
theorem dX9_sweeps_60 : decode cX9_sweeps 60 = .ok (.iconst 0, 1) := by decide +kernel
theorem dX9_sweeps_61 : decode cX9_sweeps 61 = .ok (.iastore, 1) := by decide +kernel
theorem dX9_sweeps_62 : decode cX9_sweeps 62 = .ok (.aload_n 0, 1) := by decide +kernel
theorem dX9_sweeps_63 : decode cX9_sweeps 63 = .ok (.getfield 86, 3) := by decide +kernel
theorem dX9_sweeps_66 : decode cX9_sweeps 66 = .ok (.iload 4, 2) := by decide +kernel
theorem dX9_sweeps_68 : decode cX9_sweeps 68 = .ok (.iload 5, 2) := by decide +kernel
theorem dX9_sweeps_70 : decode cX9_sweeps 70 = .ok (.ifCond .eq 13, 3) := by decide +kernel
theorem dX9_sweeps_73 : decode cX9_sweeps 73 = .ok (.aload_n 0, 1) := by decide +kernel
theorem dX9_sweeps_74 : decode cX9_sweeps 74 = .ok (.iload 4, 2) := by decide +kernel
theorem dX9_sweeps_76 : decode cX9_sweeps 76 = .ok (.iconst 2, 1) := by decide +kernel
theorem dX9_sweeps_77 : decode cX9_sweeps 77 = .ok (.invokevirtual 189, 3) := by decide +kernel
theorem dX9_sweeps_80 : decode cX9_sweeps 80 = .ok (.goto 4, 3) := by decide +kernel
theorem dX9_sweeps_83 : decode cX9_sweeps 83 = .ok (.iconst 0, 1) := by decide +kernel
theorem dX9_sweeps_84 : decode cX9_sweeps 84 = .ok (.iastore, 1) := by decide +kernel
theorem dX9_sweeps_85 : decode cX9_sweeps 85 = .ok (.iinc 4 1, 3) := by decide +kernel
theorem dX9_sweeps_88 : decode cX9_sweeps 88 = .ok (.goto (-85), 3) := by decide +kernel
theorem dX9_sweeps_91 : decode cX9_sweeps 91 = .ok (.aload_n 0, 1) := by decide +kernel
theorem dX9_sweeps_92 : decode cX9_sweeps 92 = .ok (.getfield 74, 3) := by decide +kernel
theorem dX9_sweeps_95 : decode cX9_sweeps 95 = .ok (.iconst 0, 1) := by decide +kernel
theorem dX9_sweeps_96 : decode cX9_sweeps 96 = .ok (.iaload, 1) := by decide +kernel
theorem dX9_sweeps_97 : decode cX9_sweeps 97 = .ok (.iconst 1, 1) := by decide +kernel
theorem dX9_sweeps_98 : decode cX9_sweeps 98 = .ok (.iadd, 1) := by decide +kernel
theorem dX9_sweeps_99 : decode cX9_sweeps 99 = .ok (.istore 4, 2) := by decide +kernel
theorem dX9_sweeps_101 : decode cX9_sweeps 101 = .ok (.iload 4, 2) := by decide +kernel
theorem dX9_sweeps_103 : decode cX9_sweeps 103 = .ok (.bipush 40, 2) := by decide +kernel
theorem dX9_sweeps_105 : decode cX9_sweeps 105 = .ok (.if_icmp .ge 239, 3) := by decide +kernel
theorem dX9_sweeps_108 : decode cX9_sweeps 108 = .ok (.aload_n 0, 1) := by decide +kernel
theorem dX9_sweeps_109 : decode cX9_sweeps 109 = .ok (.getfield 89, 3) := by decide +kernel
theorem dX9_sweeps_112 : decode cX9_sweeps 112 = .ok (.iload 4, 2) := by decide +kernel
theorem dX9_sweeps_114 : decode cX9_sweeps 114 = .ok (.aload_n 0, 1) := by decide +kernel
theorem dX9_sweeps_115 : decode cX9_sweeps 115 = .ok (.iload_n 1, 1) := by decide +kernel
theorem dX9_sweeps_116 : decode cX9_sweeps 116 = .ok (.iload 4, 2) := by decide +kernel
theorem dX9_sweeps_118 : decode cX9_sweeps 118 = .ok (.iconst 1, 1) := by decide +kernel
theorem dX9_sweeps_119 : decode cX9_sweeps 119 = .ok (.invokevirtual 192, 3) := by decide +kernel
theorem dX9_sweeps_122 : decode cX9_sweeps 122 = .ok (.iastore, 1) := by decide +kernel
theorem dX9_sweeps_123 : decode cX9_sweeps 123 = .ok (.aload_n 0, 1) := by decide +kernel
theorem dX9_sweeps_124 : decode cX9_sweeps 124 = .ok (.getfield 92, 3) := by decide +kernel
theorem dX9_sweeps_127 : decode cX9_sweeps 127 = .ok (.iload 4, 2) := by decide +kernel
theorem dX9_sweeps_129 : decode cX9_sweeps 129 = .ok (.aload_n 0, 1) := by decide +kernel
theorem dX9_sweeps_130 : decode cX9_sweeps 130 = .ok (.getfield 89, 3) := by decide +kernel
theorem dX9_sweeps_133 : decode cX9_sweeps 133 = .ok (.iload 4, 2) := by decide +kernel
theorem dX9_sweeps_135 : decode cX9_sweeps 135 = .ok (.iaload, 1) := by decide +kernel
theorem dX9_sweeps_136 : decode cX9_sweeps 136 = .ok (.aload_n 0, 1) := by decide +kernel
theorem dX9_sweeps_137 : decode cX9_sweeps 137 = .ok (.iload_n 1, 1) := by decide +kernel
theorem dX9_sweeps_138 : decode cX9_sweeps 138 = .ok (.iload 4, 2) := by decide +kernel
theorem dX9_sweeps_140 : decode cX9_sweeps 140 = .ok (.invokevirtual 196, 3) := by decide +kernel
theorem dX9_sweeps_143 : decode cX9_sweeps 143 = .ok (.iadd, 1) := by decide +kernel
theorem dX9_sweeps_144 : decode cX9_sweeps 144 = .ok (.iload 4, 2) := by decide +kernel
theorem dX9_sweeps_146 : decode cX9_sweeps 146 = .ok (.iload_n 2, 1) := by decide +kernel
theorem dX9_sweeps_147 : decode cX9_sweeps 147 = .ok (.if_icmp .ne 7, 3) := by decide +kernel
theorem dX9_sweeps_150 : decode cX9_sweeps 150 = .ok (.iload_n 3, 1) := by decide +kernel
theorem dX9_sweeps_151 : decode cX9_sweeps 151 = .ok (.goto 4, 3) := by decide +kernel
theorem dX9_sweeps_154 : decode cX9_sweeps 154 = .ok (.iconst 0, 1) := by decide +kernel
theorem dX9_sweeps_155 : decode cX9_sweeps 155 = .ok (.iadd, 1) := by decide +kernel
theorem dX9_sweeps_156 : decode cX9_sweeps 156 = .ok (.iastore, 1) := by decide +kernel
theorem dX9_sweeps_157 : decode cX9_sweeps 157 = .ok (.aload_n 0, 1) := by decide +kernel
theorem dX9_sweeps_158 : decode cX9_sweeps 158 = .ok (.getfield 95, 3) := by decide +kernel
theorem dX9_sweeps_161 : decode cX9_sweeps 161 = .ok (.iload 4, 2) := by decide +kernel
theorem dX9_sweeps_163 : decode cX9_sweeps 163 = .ok (.aload_n 0, 1) := by decide +kernel
theorem dX9_sweeps_164 : decode cX9_sweeps 164 = .ok (.iload_n 1, 1) := by decide +kernel
theorem dX9_sweeps_165 : decode cX9_sweeps 165 = .ok (.iload 4, 2) := by decide +kernel
theorem dX9_sweeps_167 : decode cX9_sweeps 167 = .ok (.iconst 0, 1) := by decide +kernel
theorem dX9_sweeps_168 : decode cX9_sweeps 168 = .ok (.invokevirtual 192, 3) := by decide +kernel
theorem dX9_sweeps_171 : decode cX9_sweeps 171 = .ok (.iastore, 1) := by decide +kernel
theorem dX9_sweeps_172 : decode cX9_sweeps 172 = .ok (.aload_n 0, 1) := by decide +kernel
theorem dX9_sweeps_173 : decode cX9_sweeps 173 = .ok (.getfield 98, 3) := by decide +kernel
theorem dX9_sweeps_176 : decode cX9_sweeps 176 = .ok (.iload 4, 2) := by decide +kernel
theorem dX9_sweeps_178 : decode cX9_sweeps 178 = .ok (.aload_n 0, 1) := by decide +kernel
theorem dX9_sweeps_179 : decode cX9_sweeps 179 = .ok (.getfield 95, 3) := by decide +kernel
theorem dX9_sweeps_182 : decode cX9_sweeps 182 = .ok (.iload 4, 2) := by decide +kernel
theorem dX9_sweeps_184 : decode cX9_sweeps 184 = .ok (.iaload, 1) := by decide +kernel
theorem dX9_sweeps_185 : decode cX9_sweeps 185 = .ok (.aload_n 0, 1) := by decide +kernel
theorem dX9_sweeps_186 : decode cX9_sweeps 186 = .ok (.getfield 92, 3) := by decide +kernel
theorem dX9_sweeps_189 : decode cX9_sweeps 189 = .ok (.iload 4, 2) := by decide +kernel
theorem dX9_sweeps_191 : decode cX9_sweeps 191 = .ok (.iaload, 1) := by decide +kernel
theorem dX9_sweeps_192 : decode cX9_sweeps 192 = .ok (.if_icmp .ge 13, 3) := by decide +kernel
theorem dX9_sweeps_195 : decode cX9_sweeps 195 = .ok (.aload_n 0, 1) := by decide +kernel
theorem dX9_sweeps_196 : decode cX9_sweeps 196 = .ok (.getfield 95, 3) := by decide +kernel
theorem dX9_sweeps_199 : decode cX9_sweeps 199 = .ok (.iload 4, 2) := by decide +kernel
theorem dX9_sweeps_201 : decode cX9_sweeps 201 = .ok (.iaload, 1) := by decide +kernel
theorem dX9_sweeps_202 : decode cX9_sweeps 202 = .ok (.goto 10, 3) := by decide +kernel
theorem dX9_sweeps_205 : decode cX9_sweeps 205 = .ok (.aload_n 0, 1) := by decide +kernel
theorem dX9_sweeps_206 : decode cX9_sweeps 206 = .ok (.getfield 92, 3) := by decide +kernel
theorem dX9_sweeps_209 : decode cX9_sweeps 209 = .ok (.iload 4, 2) := by decide +kernel
theorem dX9_sweeps_211 : decode cX9_sweeps 211 = .ok (.iaload, 1) := by decide +kernel
theorem dX9_sweeps_212 : decode cX9_sweeps 212 = .ok (.iastore, 1) := by decide +kernel
theorem dX9_sweeps_213 : decode cX9_sweeps 213 = .ok (.aload_n 0, 1) := by decide +kernel
theorem dX9_sweeps_214 : decode cX9_sweeps 214 = .ok (.getfield 101, 3) := by decide +kernel
theorem dX9_sweeps_217 : decode cX9_sweeps 217 = .ok (.iload 4, 2) := by decide +kernel
theorem dX9_sweeps_219 : decode cX9_sweeps 219 = .ok (.aload_n 0, 1) := by decide +kernel
theorem dX9_sweeps_220 : decode cX9_sweeps 220 = .ok (.iload 4, 2) := by decide +kernel
theorem dX9_sweeps_222 : decode cX9_sweeps 222 = .ok (.aload_n 0, 1) := by decide +kernel
theorem dX9_sweeps_223 : decode cX9_sweeps 223 = .ok (.getfield 92, 3) := by decide +kernel
theorem dX9_sweeps_226 : decode cX9_sweeps 226 = .ok (.iload 4, 2) := by decide +kernel
theorem dX9_sweeps_228 : decode cX9_sweeps 228 = .ok (.iaload, 1) := by decide +kernel
theorem dX9_sweeps_229 : decode cX9_sweeps 229 = .ok (.aload_n 0, 1) := by decide +kernel
theorem dX9_sweeps_230 : decode cX9_sweeps 230 = .ok (.getfield 98, 3) := by decide +kernel
theorem dX9_sweeps_233 : decode cX9_sweeps 233 = .ok (.iload 4, 2) := by decide +kernel
theorem dX9_sweeps_235 : decode cX9_sweeps 235 = .ok (.iaload, 1) := by decide +kernel
theorem dX9_sweeps_236 : decode cX9_sweeps 236 = .ok (.isub, 1) := by decide +kernel
theorem dX9_sweeps_237 : decode cX9_sweeps 237 = .ok (.invokevirtual 199, 3) := by decide +kernel
theorem dX9_sweeps_240 : decode cX9_sweeps 240 = .ok (.iastore, 1) := by decide +kernel
theorem dX9_sweeps_241 : decode cX9_sweeps 241 = .ok (.aload_n 0, 1) := by decide +kernel
theorem dX9_sweeps_242 : decode cX9_sweeps 242 = .ok (.getfield 83, 3) := by decide +kernel
theorem dX9_sweeps_245 : decode cX9_sweeps 245 = .ok (.bipush 10, 2) := by decide +kernel
theorem dX9_sweeps_247 : decode cX9_sweeps 247 = .ok (.iload 4, 2) := by decide +kernel
theorem dX9_sweeps_249 : decode cX9_sweeps 249 = .ok (.iadd, 1) := by decide +kernel
theorem dX9_sweeps_250 : decode cX9_sweeps 250 = .ok (.aload_n 0, 1) := by decide +kernel
theorem dX9_sweeps_251 : decode cX9_sweeps 251 = .ok (.getfield 95, 3) := by decide +kernel
theorem dX9_sweeps_254 : decode cX9_sweeps 254 = .ok (.iload 4, 2) := by decide +kernel
theorem dX9_sweeps_256 : decode cX9_sweeps 256 = .ok (.iaload, 1) := by decide +kernel
theorem dX9_sweeps_257 : decode cX9_sweeps 257 = .ok (.aload_n 0, 1) := by decide +kernel
theorem dX9_sweeps_258 : decode cX9_sweeps 258 = .ok (.getfield 98, 3) := by decide +kernel
theorem dX9_sweeps_261 : decode cX9_sweeps 261 = .ok (.iload 4, 2) := by decide +kernel
theorem dX9_sweeps_263 : decode cX9_sweeps 263 = .ok (.iaload, 1) := by decide +kernel
theorem dX9_sweeps_264 : decode cX9_sweeps 264 = .ok (.isub, 1) := by decide +kernel
theorem dX9_sweeps_265 : decode cX9_sweeps 265 = .ok (.iastore, 1) := by decide +kernel
theorem dX9_sweeps_266 : decode cX9_sweeps 266 = .ok (.aload_n 0, 1) := by decide +kernel
theorem dX9_sweeps_267 : decode cX9_sweeps 267 = .ok (.getfield 86, 3) := by decide +kernel
theorem dX9_sweeps_270 : decode cX9_sweeps 270 = .ok (.bipush 10, 2) := by decide +kernel
theorem dX9_sweeps_272 : decode cX9_sweeps 272 = .ok (.iload 4, 2) := by decide +kernel
theorem dX9_sweeps_274 : decode cX9_sweeps 274 = .ok (.iadd, 1) := by decide +kernel
theorem dX9_sweeps_275 : decode cX9_sweeps 275 = .ok (.iload 4, 2) := by decide +kernel
theorem dX9_sweeps_277 : decode cX9_sweeps 277 = .ok (.aload_n 0, 1) := by decide +kernel
theorem dX9_sweeps_278 : decode cX9_sweeps 278 = .ok (.getfield 74, 3) := by decide +kernel
theorem dX9_sweeps_281 : decode cX9_sweeps 281 = .ok (.iconst 1, 1) := by decide +kernel
theorem dX9_sweeps_282 : decode cX9_sweeps 282 = .ok (.iaload, 1) := by decide +kernel
theorem dX9_sweeps_283 : decode cX9_sweeps 283 = .ok (.iadd, 1) := by decide +kernel
theorem dX9_sweeps_284 : decode cX9_sweeps 284 = .ok (.iastore, 1) := by decide +kernel
theorem dX9_sweeps_285 : decode cX9_sweeps 285 = .ok (.aload_n 0, 1) := by decide +kernel
theorem dX9_sweeps_286 : decode cX9_sweeps 286 = .ok (.getfield 104, 3) := by decide +kernel
theorem dX9_sweeps_289 : decode cX9_sweeps 289 = .ok (.iload 4, 2) := by decide +kernel
theorem dX9_sweeps_291 : decode cX9_sweeps 291 = .ok (.iconst 0, 1) := by decide +kernel
theorem dX9_sweeps_292 : decode cX9_sweeps 292 = .ok (.iastore, 1) := by decide +kernel
theorem dX9_sweeps_293 : decode cX9_sweeps 293 = .ok (.iconst 0, 1) := by decide +kernel
theorem dX9_sweeps_294 : decode cX9_sweeps 294 = .ok (.istore 5, 2) := by decide +kernel
theorem dX9_sweeps_296 : decode cX9_sweeps 296 = .ok (.iload 5, 2) := by decide +kernel
theorem dX9_sweeps_298 : decode cX9_sweeps 298 = .ok (.bipush 50, 2) := by decide +kernel
theorem dX9_sweeps_300 : decode cX9_sweeps 300 = .ok (.if_icmp .ge 38, 3) := by decide +kernel
theorem dX9_sweeps_303 : decode cX9_sweeps 303 = .ok (.aload_n 0, 1) := by decide +kernel
theorem dX9_sweeps_304 : decode cX9_sweeps 304 = .ok (.getfield 86, 3) := by decide +kernel
theorem dX9_sweeps_307 : decode cX9_sweeps 307 = .ok (.iload 5, 2) := by decide +kernel
theorem dX9_sweeps_309 : decode cX9_sweeps 309 = .ok (.iaload, 1) := by decide +kernel
theorem dX9_sweeps_310 : decode cX9_sweeps 310 = .ok (.iload 4, 2) := by decide +kernel
theorem dX9_sweeps_312 : decode cX9_sweeps 312 = .ok (.if_icmp .le 20, 3) := by decide +kernel
theorem dX9_sweeps_315 : decode cX9_sweeps 315 = .ok (.aload_n 0, 1) := by decide +kernel
theorem dX9_sweeps_316 : decode cX9_sweeps 316 = .ok (.getfield 104, 3) := by decide +kernel
theorem dX9_sweeps_319 : decode cX9_sweeps 319 = .ok (.iload 4, 2) := by decide +kernel
theorem dX9_sweeps_321 : decode cX9_sweeps 321 = .ok (.dup2, 1) := by decide +kernel
theorem dX9_sweeps_322 : decode cX9_sweeps 322 = .ok (.iaload, 1) := by decide +kernel
theorem dX9_sweeps_323 : decode cX9_sweeps 323 = .ok (.aload_n 0, 1) := by decide +kernel
theorem dX9_sweeps_324 : decode cX9_sweeps 324 = .ok (.getfield 83, 3) := by decide +kernel
theorem dX9_sweeps_327 : decode cX9_sweeps 327 = .ok (.iload 5, 2) := by decide +kernel
theorem dX9_sweeps_329 : decode cX9_sweeps 329 = .ok (.iaload, 1) := by decide +kernel
theorem dX9_sweeps_330 : decode cX9_sweeps 330 = .ok (.iadd, 1) := by decide +kernel
theorem dX9_sweeps_331 : decode cX9_sweeps 331 = .ok (.iastore, 1) := by decide +kernel
theorem dX9_sweeps_332 : decode cX9_sweeps 332 = .ok (.iinc 5 1, 3) := by decide +kernel
theorem dX9_sweeps_335 : decode cX9_sweeps 335 = .ok (.goto (-39), 3) := by decide +kernel
theorem dX9_sweeps_338 : decode cX9_sweeps 338 = .ok (.iinc 4 1, 3) := by decide +kernel
theorem dX9_sweeps_341 : decode cX9_sweeps 341 = .ok (.goto (-240), 3) := by decide +kernel
theorem dX9_sweeps_344 : decode cX9_sweeps 344 = .ok (.return_, 1) := by decide +kernel
theorem dX9_usesLosses_0 : decode cX9_usesLosses 0 = .ok (.iconst 0, 1) := by decide +kernel
theorem dX9_usesLosses_1 : decode cX9_usesLosses 1 = .ok (.istore_n 3, 1) := by decide +kernel
theorem dX9_usesLosses_2 : decode cX9_usesLosses 2 = .ok (.aload_n 0, 1) := by decide +kernel
theorem dX9_usesLosses_3 : decode cX9_usesLosses 3 = .ok (.iload_n 1, 1) := by decide +kernel
theorem dX9_usesLosses_4 : decode cX9_usesLosses 4 = .ok (.invokevirtual 202, 3) := by decide +kernel
theorem dX9_usesLosses_7 : decode cX9_usesLosses 7 = .ok (.istore 4, 2) := by decide +kernel
theorem dX9_usesLosses_9 : decode cX9_usesLosses 9 = .ok (.iload_n 3, 1) := by decide +kernel
theorem dX9_usesLosses_10 : decode cX9_usesLosses 10 = .ok (.iload_n 2, 1) := by decide +kernel
theorem dX9_usesLosses_11 : decode cX9_usesLosses 11 = .ok (.if_icmp .ge 64, 3) := by decide +kernel
theorem dX9_usesLosses_14 : decode cX9_usesLosses 14 = .ok (.iload 4, 2) := by decide +kernel
theorem dX9_usesLosses_16 : decode cX9_usesLosses 16 = .ok (.iconst (-1), 1) := by decide +kernel
theorem dX9_usesLosses_17 : decode cX9_usesLosses 17 = .ok (.if_icmp .eq 58, 3) := by decide +kernel
theorem dX9_usesLosses_20 : decode cX9_usesLosses 20 = .ok (.aload_n 0, 1) := by decide +kernel
theorem dX9_usesLosses_21 : decode cX9_usesLosses 21 = .ok (.getfield 83, 3) := by decide +kernel
theorem dX9_usesLosses_24 : decode cX9_usesLosses 24 = .ok (.iload 4, 2) := by decide +kernel
theorem dX9_usesLosses_26 : decode cX9_usesLosses 26 = .ok (.iaload, 1) := by decide +kernel
theorem dX9_usesLosses_27 : decode cX9_usesLosses 27 = .ok (.iload_n 2, 1) := by decide +kernel
theorem dX9_usesLosses_28 : decode cX9_usesLosses 28 = .ok (.iload_n 3, 1) := by decide +kernel
theorem dX9_usesLosses_29 : decode cX9_usesLosses 29 = .ok (.isub, 1) := by decide +kernel
theorem dX9_usesLosses_30 : decode cX9_usesLosses 30 = .ok (.if_icmp .ge 13, 3) := by decide +kernel
theorem dX9_usesLosses_33 : decode cX9_usesLosses 33 = .ok (.aload_n 0, 1) := by decide +kernel
theorem dX9_usesLosses_34 : decode cX9_usesLosses 34 = .ok (.getfield 83, 3) := by decide +kernel
theorem dX9_usesLosses_37 : decode cX9_usesLosses 37 = .ok (.iload 4, 2) := by decide +kernel
theorem dX9_usesLosses_39 : decode cX9_usesLosses 39 = .ok (.iaload, 1) := by decide +kernel
theorem dX9_usesLosses_40 : decode cX9_usesLosses 40 = .ok (.goto 6, 3) := by decide +kernel
theorem dX9_usesLosses_43 : decode cX9_usesLosses 43 = .ok (.iload_n 2, 1) := by decide +kernel
theorem dX9_usesLosses_44 : decode cX9_usesLosses 44 = .ok (.iload_n 3, 1) := by decide +kernel
theorem dX9_usesLosses_45 : decode cX9_usesLosses 45 = .ok (.isub, 1) := by decide +kernel
theorem dX9_usesLosses_46 : decode cX9_usesLosses 46 = .ok (.istore 5, 2) := by decide +kernel
theorem dX9_usesLosses_48 : decode cX9_usesLosses 48 = .ok (.aload_n 0, 1) := by decide +kernel
theorem dX9_usesLosses_49 : decode cX9_usesLosses 49 = .ok (.getfield 83, 3) := by decide +kernel
theorem dX9_usesLosses_52 : decode cX9_usesLosses 52 = .ok (.iload 4, 2) := by decide +kernel
theorem dX9_usesLosses_54 : decode cX9_usesLosses 54 = .ok (.dup2, 1) := by decide +kernel
theorem dX9_usesLosses_55 : decode cX9_usesLosses 55 = .ok (.iaload, 1) := by decide +kernel
theorem dX9_usesLosses_56 : decode cX9_usesLosses 56 = .ok (.iload 5, 2) := by decide +kernel
theorem dX9_usesLosses_58 : decode cX9_usesLosses 58 = .ok (.isub, 1) := by decide +kernel
theorem dX9_usesLosses_59 : decode cX9_usesLosses 59 = .ok (.iastore, 1) := by decide +kernel
theorem dX9_usesLosses_60 : decode cX9_usesLosses 60 = .ok (.iload_n 3, 1) := by decide +kernel
theorem dX9_usesLosses_61 : decode cX9_usesLosses 61 = .ok (.iload 5, 2) := by decide +kernel
theorem dX9_usesLosses_63 : decode cX9_usesLosses 63 = .ok (.iadd, 1) := by decide +kernel
theorem dX9_usesLosses_64 : decode cX9_usesLosses 64 = .ok (.istore_n 3, 1) := by decide +kernel
theorem dX9_usesLosses_65 : decode cX9_usesLosses 65 = .ok (.aload_n 0, 1) := by decide +kernel
theorem dX9_usesLosses_66 : decode cX9_usesLosses 66 = .ok (.iload_n 1, 1) := by decide +kernel
theorem dX9_usesLosses_67 : decode cX9_usesLosses 67 = .ok (.invokevirtual 202, 3) := by decide +kernel
theorem dX9_usesLosses_70 : decode cX9_usesLosses 70 = .ok (.istore 4, 2) := by decide +kernel
theorem dX9_usesLosses_72 : decode cX9_usesLosses 72 = .ok (.goto (-63), 3) := by decide +kernel
theorem dX9_usesLosses_75 : decode cX9_usesLosses 75 = .ok (.iload_n 3, 1) := by decide +kernel
theorem dX9_usesLosses_76 : decode cX9_usesLosses 76 = .ok (.ireturn, 1) := by decide +kernel
theorem dX9_used_0 : decode cX9_used 0 = .ok (.aload_n 0, 1) := by decide +kernel
theorem dX9_used_1 : decode cX9_used 1 = .ok (.getfield 98, 3) := by decide +kernel
theorem dX9_used_4 : decode cX9_used 4 = .ok (.iload_n 1, 1) := by decide +kernel
theorem dX9_used_5 : decode cX9_used 5 = .ok (.iaload, 1) := by decide +kernel
theorem dX9_used_6 : decode cX9_used 6 = .ok (.aload_n 0, 1) := by decide +kernel
theorem dX9_used_7 : decode cX9_used 7 = .ok (.getfield 101, 3) := by decide +kernel
theorem dX9_used_10 : decode cX9_used 10 = .ok (.iload_n 1, 1) := by decide +kernel
theorem dX9_used_11 : decode cX9_used 11 = .ok (.iaload, 1) := by decide +kernel
theorem dX9_used_12 : decode cX9_used 12 = .ok (.iadd, 1) := by decide +kernel
theorem dX9_used_13 : decode cX9_used 13 = .ok (.ireturn, 1) := by decide +kernel
theorem dX9_taxOn_0 : decode cX9_taxOn 0 = .ok (.iload_n 0, 1) := by decide +kernel
theorem dX9_taxOn_1 : decode cX9_taxOn 1 = .ok (.i2l, 1) := by decide +kernel
theorem dX9_taxOn_2 : decode cX9_taxOn 2 = .ok (.iload_n 1, 1) := by decide +kernel
theorem dX9_taxOn_3 : decode cX9_taxOn 3 = .ok (.i2l, 1) := by decide +kernel
theorem dX9_taxOn_4 : decode cX9_taxOn 4 = .ok (.lmul, 1) := by decide +kernel
theorem dX9_taxOn_5 : decode cX9_taxOn 5 = .ok (.ldc2_w 205, 3) := by decide +kernel
theorem dX9_taxOn_8 : decode cX9_taxOn 8 = .ok (.ldiv, 1) := by decide +kernel
theorem dX9_taxOn_9 : decode cX9_taxOn 9 = .ok (.l2i, 1) := by decide +kernel
theorem dX9_taxOn_10 : decode cX9_taxOn 10 = .ok (.ireturn, 1) := by decide +kernel
theorem dX9_liability_0 : decode cX9_liability 0 = .ok (.iconst 0, 1) := by decide +kernel
theorem dX9_liability_1 : decode cX9_liability 1 = .ok (.istore_n 2, 1) := by decide +kernel
theorem dX9_liability_2 : decode cX9_liability 2 = .ok (.aload_n 0, 1) := by decide +kernel
theorem dX9_liability_3 : decode cX9_liability 3 = .ok (.getfield 74, 3) := by decide +kernel
theorem dX9_liability_6 : decode cX9_liability 6 = .ok (.iconst 0, 1) := by decide +kernel
theorem dX9_liability_7 : decode cX9_liability 7 = .ok (.iaload, 1) := by decide +kernel
theorem dX9_liability_8 : decode cX9_liability 8 = .ok (.iconst 1, 1) := by decide +kernel
theorem dX9_liability_9 : decode cX9_liability 9 = .ok (.iadd, 1) := by decide +kernel
theorem dX9_liability_10 : decode cX9_liability 10 = .ok (.istore_n 3, 1) := by decide +kernel
theorem dX9_liability_11 : decode cX9_liability 11 = .ok (.iload_n 3, 1) := by decide +kernel
theorem dX9_liability_12 : decode cX9_liability 12 = .ok (.bipush 40, 2) := by decide +kernel
theorem dX9_liability_14 : decode cX9_liability 14 = .ok (.if_icmp .ge 27, 3) := by decide +kernel
theorem dX9_liability_17 : decode cX9_liability 17 = .ok (.iload_n 2, 1) := by decide +kernel
theorem dX9_liability_18 : decode cX9_liability 18 = .ok (.aload_n 0, 1) := by decide +kernel
theorem dX9_liability_19 : decode cX9_liability 19 = .ok (.getfield 89, 3) := by decide +kernel
theorem dX9_liability_22 : decode cX9_liability 22 = .ok (.iload_n 3, 1) := by decide +kernel
theorem dX9_liability_23 : decode cX9_liability 23 = .ok (.iaload, 1) := by decide +kernel
theorem dX9_liability_24 : decode cX9_liability 24 = .ok (.aload_n 0, 1) := by decide +kernel
theorem dX9_liability_25 : decode cX9_liability 25 = .ok (.iload_n 1, 1) := by decide +kernel
theorem dX9_liability_26 : decode cX9_liability 26 = .ok (.iload_n 3, 1) := by decide +kernel
theorem dX9_liability_27 : decode cX9_liability 27 = .ok (.invokevirtual 207, 3) := by decide +kernel
theorem dX9_liability_30 : decode cX9_liability 30 = .ok (.invokestatic 210, 3) := by decide +kernel
theorem dX9_liability_33 : decode cX9_liability 33 = .ok (.iadd, 1) := by decide +kernel
theorem dX9_liability_34 : decode cX9_liability 34 = .ok (.istore_n 2, 1) := by decide +kernel
theorem dX9_liability_35 : decode cX9_liability 35 = .ok (.iinc 3 1, 3) := by decide +kernel
theorem dX9_liability_38 : decode cX9_liability 38 = .ok (.goto (-27), 3) := by decide +kernel
theorem dX9_liability_41 : decode cX9_liability 41 = .ok (.iload_n 2, 1) := by decide +kernel
theorem dX9_liability_42 : decode cX9_liability 42 = .ok (.ireturn, 1) := by decide +kernel
theorem dX9_asset_0 : decode cX9_asset 0 = .ok (.iconst 0, 1) := by decide +kernel
theorem dX9_asset_1 : decode cX9_asset 1 = .ok (.istore_n 2, 1) := by decide +kernel
theorem dX9_asset_2 : decode cX9_asset 2 = .ok (.aload_n 0, 1) := by decide +kernel
theorem dX9_asset_3 : decode cX9_asset 3 = .ok (.getfield 74, 3) := by decide +kernel
theorem dX9_asset_6 : decode cX9_asset 6 = .ok (.iconst 0, 1) := by decide +kernel
theorem dX9_asset_7 : decode cX9_asset 7 = .ok (.iaload, 1) := by decide +kernel
theorem dX9_asset_8 : decode cX9_asset 8 = .ok (.iconst 1, 1) := by decide +kernel
theorem dX9_asset_9 : decode cX9_asset 9 = .ok (.iadd, 1) := by decide +kernel
theorem dX9_asset_10 : decode cX9_asset 10 = .ok (.istore_n 3, 1) := by decide +kernel
theorem dX9_asset_11 : decode cX9_asset 11 = .ok (.iload_n 3, 1) := by decide +kernel
theorem dX9_asset_12 : decode cX9_asset 12 = .ok (.bipush 40, 2) := by decide +kernel
theorem dX9_asset_14 : decode cX9_asset 14 = .ok (.if_icmp .ge 26, 3) := by decide +kernel
theorem dX9_asset_17 : decode cX9_asset 17 = .ok (.iload_n 2, 1) := by decide +kernel
theorem dX9_asset_18 : decode cX9_asset 18 = .ok (.aload_n 0, 1) := by decide +kernel
theorem dX9_asset_19 : decode cX9_asset 19 = .ok (.iload_n 3, 1) := by decide +kernel
theorem dX9_asset_20 : decode cX9_asset 20 = .ok (.invokevirtual 213, 3) := by decide +kernel
theorem dX9_asset_23 : decode cX9_asset 23 = .ok (.aload_n 0, 1) := by decide +kernel
theorem dX9_asset_24 : decode cX9_asset 24 = .ok (.iload_n 1, 1) := by decide +kernel
theorem dX9_asset_25 : decode cX9_asset 25 = .ok (.iload_n 3, 1) := by decide +kernel
theorem dX9_asset_26 : decode cX9_asset 26 = .ok (.invokevirtual 207, 3) := by decide +kernel
theorem dX9_asset_29 : decode cX9_asset 29 = .ok (.invokestatic 210, 3) := by decide +kernel
theorem dX9_asset_32 : decode cX9_asset 32 = .ok (.iadd, 1) := by decide +kernel
theorem dX9_asset_33 : decode cX9_asset 33 = .ok (.istore_n 2, 1) := by decide +kernel
theorem dX9_asset_34 : decode cX9_asset 34 = .ok (.iinc 3 1, 3) := by decide +kernel
theorem dX9_asset_37 : decode cX9_asset 37 = .ok (.goto (-26), 3) := by decide +kernel
theorem dX9_asset_40 : decode cX9_asset 40 = .ok (.iload_n 2, 1) := by decide +kernel
theorem dX9_asset_41 : decode cX9_asset 41 = .ok (.ireturn, 1) := by decide +kernel
theorem dX9_unrecognised_0 : decode cX9_unrecognised 0 = .ok (.iconst 0, 1) := by decide +kernel
theorem dX9_unrecognised_1 : decode cX9_unrecognised 1 = .ok (.istore_n 2, 1) := by decide +kernel
theorem dX9_unrecognised_2 : decode cX9_unrecognised 2 = .ok (.iconst 0, 1) := by decide +kernel
theorem dX9_unrecognised_3 : decode cX9_unrecognised 3 = .ok (.istore_n 3, 1) := by decide +kernel
theorem dX9_unrecognised_4 : decode cX9_unrecognised 4 = .ok (.iload_n 3, 1) := by decide +kernel
theorem dX9_unrecognised_5 : decode cX9_unrecognised 5 = .ok (.aload_n 0, 1) := by decide +kernel
theorem dX9_unrecognised_6 : decode cX9_unrecognised 6 = .ok (.getfield 74, 3) := by decide +kernel
theorem dX9_unrecognised_9 : decode cX9_unrecognised 9 = .ok (.iconst 3, 1) := by decide +kernel
theorem dX9_unrecognised_10 : decode cX9_unrecognised 10 = .ok (.iaload, 1) := by decide +kernel
theorem dX9_unrecognised_11 : decode cX9_unrecognised 11 = .ok (.if_icmp .ge 36, 3) := by decide +kernel
theorem dX9_unrecognised_14 : decode cX9_unrecognised 14 = .ok (.aload_n 0, 1) := by decide +kernel
theorem dX9_unrecognised_15 : decode cX9_unrecognised 15 = .ok (.iload_n 3, 1) := by decide +kernel
theorem dX9_unrecognised_16 : decode cX9_unrecognised 16 = .ok (.iconst 0, 1) := by decide +kernel
theorem dX9_unrecognised_17 : decode cX9_unrecognised 17 = .ok (.invokevirtual 179, 3) := by decide +kernel
theorem dX9_unrecognised_20 : decode cX9_unrecognised 20 = .ok (.iload_n 1, 1) := by decide +kernel
theorem dX9_unrecognised_21 : decode cX9_unrecognised 21 = .ok (.if_icmp .ne 20, 3) := by decide +kernel
theorem dX9_unrecognised_24 : decode cX9_unrecognised 24 = .ok (.aload_n 0, 1) := by decide +kernel
theorem dX9_unrecognised_25 : decode cX9_unrecognised 25 = .ok (.iload_n 3, 1) := by decide +kernel
theorem dX9_unrecognised_26 : decode cX9_unrecognised 26 = .ok (.iconst 1, 1) := by decide +kernel
theorem dX9_unrecognised_27 : decode cX9_unrecognised 27 = .ok (.invokevirtual 179, 3) := by decide +kernel
theorem dX9_unrecognised_30 : decode cX9_unrecognised 30 = .ok (.ifCond .ne 11, 3) := by decide +kernel
theorem dX9_unrecognised_33 : decode cX9_unrecognised 33 = .ok (.iload_n 2, 1) := by decide +kernel
theorem dX9_unrecognised_34 : decode cX9_unrecognised 34 = .ok (.aload_n 0, 1) := by decide +kernel
theorem dX9_unrecognised_35 : decode cX9_unrecognised 35 = .ok (.iload_n 3, 1) := by decide +kernel
theorem dX9_unrecognised_36 : decode cX9_unrecognised 36 = .ok (.invokevirtual 216, 3) := by decide +kernel
theorem dX9_unrecognised_39 : decode cX9_unrecognised 39 = .ok (.iadd, 1) := by decide +kernel
theorem dX9_unrecognised_40 : decode cX9_unrecognised 40 = .ok (.istore_n 2, 1) := by decide +kernel
theorem dX9_unrecognised_41 : decode cX9_unrecognised 41 = .ok (.iinc 3 1, 3) := by decide +kernel
theorem dX9_unrecognised_44 : decode cX9_unrecognised 44 = .ok (.goto (-40), 3) := by decide +kernel
theorem dX9_unrecognised_47 : decode cX9_unrecognised 47 = .ok (.iconst 0, 1) := by decide +kernel
theorem dX9_unrecognised_48 : decode cX9_unrecognised 48 = .ok (.istore_n 3, 1) := by decide +kernel
theorem dX9_unrecognised_49 : decode cX9_unrecognised 49 = .ok (.iload_n 3, 1) := by decide +kernel
theorem dX9_unrecognised_50 : decode cX9_unrecognised 50 = .ok (.aload_n 0, 1) := by decide +kernel
theorem dX9_unrecognised_51 : decode cX9_unrecognised 51 = .ok (.getfield 74, 3) := by decide +kernel
theorem dX9_unrecognised_54 : decode cX9_unrecognised 54 = .ok (.iconst 4, 1) := by decide +kernel
theorem dX9_unrecognised_55 : decode cX9_unrecognised 55 = .ok (.iaload, 1) := by decide +kernel
theorem dX9_unrecognised_56 : decode cX9_unrecognised 56 = .ok (.if_icmp .ge 43, 3) := by decide +kernel
theorem dX9_unrecognised_59 : decode cX9_unrecognised 59 = .ok (.aload_n 0, 1) := by decide +kernel
theorem dX9_unrecognised_60 : decode cX9_unrecognised 60 = .ok (.iload_n 3, 1) := by decide +kernel
theorem dX9_unrecognised_61 : decode cX9_unrecognised 61 = .ok (.iconst 0, 1) := by decide +kernel
theorem dX9_unrecognised_62 : decode cX9_unrecognised 62 = .ok (.invokevirtual 189, 3) := by decide +kernel
theorem dX9_unrecognised_65 : decode cX9_unrecognised 65 = .ok (.iload_n 1, 1) := by decide +kernel
theorem dX9_unrecognised_66 : decode cX9_unrecognised 66 = .ok (.if_icmp .ne 27, 3) := by decide +kernel
theorem dX9_unrecognised_69 : decode cX9_unrecognised 69 = .ok (.aload_n 0, 1) := by decide +kernel
theorem dX9_unrecognised_70 : decode cX9_unrecognised 70 = .ok (.iload_n 3, 1) := by decide +kernel
theorem dX9_unrecognised_71 : decode cX9_unrecognised 71 = .ok (.iconst 2, 1) := by decide +kernel
theorem dX9_unrecognised_72 : decode cX9_unrecognised 72 = .ok (.invokevirtual 189, 3) := by decide +kernel
theorem dX9_unrecognised_75 : decode cX9_unrecognised 75 = .ok (.aload_n 0, 1) := by decide +kernel
theorem dX9_unrecognised_76 : decode cX9_unrecognised 76 = .ok (.getfield 74, 3) := by decide +kernel
theorem dX9_unrecognised_79 : decode cX9_unrecognised 79 = .ok (.iconst 0, 1) := by decide +kernel
theorem dX9_unrecognised_80 : decode cX9_unrecognised 80 = .ok (.iaload, 1) := by decide +kernel
theorem dX9_unrecognised_81 : decode cX9_unrecognised 81 = .ok (.if_icmp .le 12, 3) := by decide +kernel
theorem dX9_unrecognised_84 : decode cX9_unrecognised 84 = .ok (.iload_n 2, 1) := by decide +kernel
theorem dX9_unrecognised_85 : decode cX9_unrecognised 85 = .ok (.aload_n 0, 1) := by decide +kernel
theorem dX9_unrecognised_86 : decode cX9_unrecognised 86 = .ok (.iload_n 3, 1) := by decide +kernel
theorem dX9_unrecognised_87 : decode cX9_unrecognised 87 = .ok (.iconst 3, 1) := by decide +kernel
theorem dX9_unrecognised_88 : decode cX9_unrecognised 88 = .ok (.invokevirtual 189, 3) := by decide +kernel
theorem dX9_unrecognised_91 : decode cX9_unrecognised 91 = .ok (.iadd, 1) := by decide +kernel
theorem dX9_unrecognised_92 : decode cX9_unrecognised 92 = .ok (.istore_n 2, 1) := by decide +kernel
theorem dX9_unrecognised_93 : decode cX9_unrecognised 93 = .ok (.iinc 3 1, 3) := by decide +kernel
theorem dX9_unrecognised_96 : decode cX9_unrecognised 96 = .ok (.goto (-47), 3) := by decide +kernel
theorem dX9_unrecognised_99 : decode cX9_unrecognised 99 = .ok (.aload_n 0, 1) := by decide +kernel
theorem dX9_unrecognised_100 : decode cX9_unrecognised 100 = .ok (.getfield 74, 3) := by decide +kernel
theorem dX9_unrecognised_103 : decode cX9_unrecognised 103 = .ok (.iconst 0, 1) := by decide +kernel
theorem dX9_unrecognised_104 : decode cX9_unrecognised 104 = .ok (.iaload, 1) := by decide +kernel
theorem dX9_unrecognised_105 : decode cX9_unrecognised 105 = .ok (.iconst 1, 1) := by decide +kernel
theorem dX9_unrecognised_106 : decode cX9_unrecognised 106 = .ok (.iadd, 1) := by decide +kernel
theorem dX9_unrecognised_107 : decode cX9_unrecognised 107 = .ok (.istore_n 3, 1) := by decide +kernel
theorem dX9_unrecognised_108 : decode cX9_unrecognised 108 = .ok (.iload_n 3, 1) := by decide +kernel
theorem dX9_unrecognised_109 : decode cX9_unrecognised 109 = .ok (.bipush 40, 2) := by decide +kernel
theorem dX9_unrecognised_111 : decode cX9_unrecognised 111 = .ok (.if_icmp .ge 17, 3) := by decide +kernel
theorem dX9_unrecognised_114 : decode cX9_unrecognised 114 = .ok (.iload_n 2, 1) := by decide +kernel
theorem dX9_unrecognised_115 : decode cX9_unrecognised 115 = .ok (.aload_n 0, 1) := by decide +kernel
theorem dX9_unrecognised_116 : decode cX9_unrecognised 116 = .ok (.iload_n 3, 1) := by decide +kernel
theorem dX9_unrecognised_117 : decode cX9_unrecognised 117 = .ok (.invokevirtual 213, 3) := by decide +kernel
theorem dX9_unrecognised_120 : decode cX9_unrecognised 120 = .ok (.isub, 1) := by decide +kernel
theorem dX9_unrecognised_121 : decode cX9_unrecognised 121 = .ok (.istore_n 2, 1) := by decide +kernel
theorem dX9_unrecognised_122 : decode cX9_unrecognised 122 = .ok (.iinc 3 1, 3) := by decide +kernel
theorem dX9_unrecognised_125 : decode cX9_unrecognised 125 = .ok (.goto (-17), 3) := by decide +kernel
theorem dX9_unrecognised_128 : decode cX9_unrecognised 128 = .ok (.iload_n 2, 1) := by decide +kernel
theorem dX9_unrecognised_129 : decode cX9_unrecognised 129 = .ok (.ireturn, 1) := by decide +kernel
theorem dX9_balanceOf_0 : decode cX9_balanceOf 0 = .ok (.aload_n 0, 1) := by decide +kernel
theorem dX9_balanceOf_1 : decode cX9_balanceOf 1 = .ok (.iload_n 1, 1) := by decide +kernel
theorem dX9_balanceOf_2 : decode cX9_balanceOf 2 = .ok (.iconst (-1), 1) := by decide +kernel
theorem dX9_balanceOf_3 : decode cX9_balanceOf 3 = .ok (.iconst 0, 1) := by decide +kernel
theorem dX9_balanceOf_4 : decode cX9_balanceOf 4 = .ok (.invokevirtual 219, 3) := by decide +kernel
theorem dX9_balanceOf_7 : decode cX9_balanceOf 7 = .ok (.iload_n 2, 1) := by decide +kernel
theorem dX9_balanceOf_8 : decode cX9_balanceOf 8 = .ok (.ifCond .ne 11, 3) := by decide +kernel
theorem dX9_balanceOf_11 : decode cX9_balanceOf 11 = .ok (.aload_n 0, 1) := by decide +kernel
theorem dX9_balanceOf_12 : decode cX9_balanceOf 12 = .ok (.iload_n 1, 1) := by decide +kernel
theorem dX9_balanceOf_13 : decode cX9_balanceOf 13 = .ok (.invokevirtual 223, 3) := by decide +kernel
theorem dX9_balanceOf_16 : decode cX9_balanceOf 16 = .ok (.goto 40, 3) := by decide +kernel
theorem dX9_balanceOf_19 : decode cX9_balanceOf 19 = .ok (.iload_n 2, 1) := by decide +kernel
theorem dX9_balanceOf_20 : decode cX9_balanceOf 20 = .ok (.iconst 1, 1) := by decide +kernel
theorem dX9_balanceOf_21 : decode cX9_balanceOf 21 = .ok (.if_icmp .ne 11, 3) := by decide +kernel
theorem dX9_balanceOf_24 : decode cX9_balanceOf 24 = .ok (.aload_n 0, 1) := by decide +kernel
theorem dX9_balanceOf_25 : decode cX9_balanceOf 25 = .ok (.iload_n 1, 1) := by decide +kernel
theorem dX9_balanceOf_26 : decode cX9_balanceOf 26 = .ok (.invokevirtual 226, 3) := by decide +kernel
theorem dX9_balanceOf_29 : decode cX9_balanceOf 29 = .ok (.goto 27, 3) := by decide +kernel
theorem dX9_balanceOf_32 : decode cX9_balanceOf 32 = .ok (.iload_n 2, 1) := by decide +kernel
theorem dX9_balanceOf_33 : decode cX9_balanceOf 33 = .ok (.iconst 2, 1) := by decide +kernel
theorem dX9_balanceOf_34 : decode cX9_balanceOf 34 = .ok (.if_icmp .ne 11, 3) := by decide +kernel
theorem dX9_balanceOf_37 : decode cX9_balanceOf 37 = .ok (.aload_n 0, 1) := by decide +kernel
theorem dX9_balanceOf_38 : decode cX9_balanceOf 38 = .ok (.iload_n 1, 1) := by decide +kernel
theorem dX9_balanceOf_39 : decode cX9_balanceOf 39 = .ok (.invokevirtual 229, 3) := by decide +kernel
theorem dX9_balanceOf_42 : decode cX9_balanceOf 42 = .ok (.goto 14, 3) := by decide +kernel
theorem dX9_balanceOf_45 : decode cX9_balanceOf 45 = .ok (.aload_n 0, 1) := by decide +kernel
theorem dX9_balanceOf_46 : decode cX9_balanceOf 46 = .ok (.iload_n 1, 1) := by decide +kernel
theorem dX9_balanceOf_47 : decode cX9_balanceOf 47 = .ok (.invokevirtual 226, 3) := by decide +kernel
theorem dX9_balanceOf_50 : decode cX9_balanceOf 50 = .ok (.aload_n 0, 1) := by decide +kernel
theorem dX9_balanceOf_51 : decode cX9_balanceOf 51 = .ok (.iload_n 1, 1) := by decide +kernel
theorem dX9_balanceOf_52 : decode cX9_balanceOf 52 = .ok (.invokevirtual 223, 3) := by decide +kernel
theorem dX9_balanceOf_55 : decode cX9_balanceOf 55 = .ok (.isub, 1) := by decide +kernel
theorem dX9_balanceOf_56 : decode cX9_balanceOf 56 = .ok (.ireturn, 1) := by decide +kernel
theorem dX9_doneItems_0 : decode cX9_doneItems 0 = .ok (.iconst 0, 1) := by decide +kernel
theorem dX9_doneItems_1 : decode cX9_doneItems 1 = .ok (.istore_n 1, 1) := by decide +kernel
theorem dX9_doneItems_2 : decode cX9_doneItems 2 = .ok (.iconst 0, 1) := by decide +kernel
theorem dX9_doneItems_3 : decode cX9_doneItems 3 = .ok (.istore_n 2, 1) := by decide +kernel
theorem dX9_doneItems_4 : decode cX9_doneItems 4 = .ok (.iload_n 2, 1) := by decide +kernel
theorem dX9_doneItems_5 : decode cX9_doneItems 5 = .ok (.aload_n 0, 1) := by decide +kernel
theorem dX9_doneItems_6 : decode cX9_doneItems 6 = .ok (.getfield 74, 3) := by decide +kernel
theorem dX9_doneItems_9 : decode cX9_doneItems 9 = .ok (.iconst 3, 1) := by decide +kernel
theorem dX9_doneItems_10 : decode cX9_doneItems 10 = .ok (.iaload, 1) := by decide +kernel
theorem dX9_doneItems_11 : decode cX9_doneItems 11 = .ok (.if_icmp .ge 20, 3) := by decide +kernel
theorem dX9_doneItems_14 : decode cX9_doneItems 14 = .ok (.aload_n 0, 1) := by decide +kernel
theorem dX9_doneItems_15 : decode cX9_doneItems 15 = .ok (.iload_n 2, 1) := by decide +kernel
theorem dX9_doneItems_16 : decode cX9_doneItems 16 = .ok (.invokevirtual 216, 3) := by decide +kernel
theorem dX9_doneItems_19 : decode cX9_doneItems 19 = .ok (.ifCond .ne 6, 3) := by decide +kernel
theorem dX9_doneItems_22 : decode cX9_doneItems 22 = .ok (.iinc 1 1, 3) := by decide +kernel
theorem dX9_doneItems_25 : decode cX9_doneItems 25 = .ok (.iinc 2 1, 3) := by decide +kernel
theorem dX9_doneItems_28 : decode cX9_doneItems 28 = .ok (.goto (-24), 3) := by decide +kernel
theorem dX9_doneItems_31 : decode cX9_doneItems 31 = .ok (.iload_n 1, 1) := by decide +kernel
theorem dX9_doneItems_32 : decode cX9_doneItems 32 = .ok (.ireturn, 1) := by decide +kernel
theorem dX9_now_0 : decode cX9_now 0 = .ok (.aload_n 0, 1) := by decide +kernel
theorem dX9_now_1 : decode cX9_now 1 = .ok (.iconst 0, 1) := by decide +kernel
theorem dX9_now_2 : decode cX9_now 2 = .ok (.putfield 1, 3) := by decide +kernel
theorem dX9_now_5 : decode cX9_now 5 = .ok (.iload_n 1, 1) := by decide +kernel
theorem dX9_now_6 : decode cX9_now 6 = .ok (.iconst 0, 1) := by decide +kernel
theorem dX9_now_7 : decode cX9_now 7 = .ok (.iconst 4, 1) := by decide +kernel
theorem dX9_now_8 : decode cX9_now 8 = .ok (.invokestatic 113, 3) := by decide +kernel
theorem dX9_now_11 : decode cX9_now 11 = .ok (.ifCond .eq 10, 3) := by decide +kernel
theorem dX9_now_14 : decode cX9_now 14 = .ok (.aload_n 0, 1) := by decide +kernel
theorem dX9_now_15 : decode cX9_now 15 = .ok (.getfield 74, 3) := by decide +kernel
theorem dX9_now_18 : decode cX9_now 18 = .ok (.iload_n 1, 1) := by decide +kernel
theorem dX9_now_19 : decode cX9_now 19 = .ok (.iaload, 1) := by decide +kernel
theorem dX9_now_20 : decode cX9_now 20 = .ok (.ireturn, 1) := by decide +kernel
theorem dX9_now_21 : decode cX9_now 21 = .ok (.iload_n 1, 1) := by decide +kernel
theorem dX9_now_22 : decode cX9_now 22 = .ok (.iconst 5, 1) := by decide +kernel
theorem dX9_now_23 : decode cX9_now 23 = .ok (.if_icmp .ne 10, 3) := by decide +kernel
theorem dX9_now_26 : decode cX9_now 26 = .ok (.aload_n 0, 1) := by decide +kernel
theorem dX9_now_27 : decode cX9_now 27 = .ok (.invokevirtual 232, 3) := by decide +kernel
theorem dX9_now_30 : decode cX9_now 30 = .ok (.goto 30, 3) := by decide +kernel
theorem dX9_now_33 : decode cX9_now 33 = .ok (.iload_n 1, 1) := by decide +kernel
theorem dX9_now_34 : decode cX9_now 34 = .ok (.bipush 6, 2) := by decide +kernel
theorem dX9_now_36 : decode cX9_now 36 = .ok (.if_icmp .ne 10, 3) := by decide +kernel
theorem dX9_now_39 : decode cX9_now 39 = .ok (.aload_n 0, 1) := by decide +kernel
theorem dX9_now_40 : decode cX9_now 40 = .ok (.getfield 171, 3) := by decide +kernel
theorem dX9_now_43 : decode cX9_now 43 = .ok (.goto 17, 3) := by decide +kernel
theorem dX9_now_46 : decode cX9_now 46 = .ok (.iload_n 1, 1) := by decide +kernel
theorem dX9_now_47 : decode cX9_now 47 = .ok (.bipush 7, 2) := by decide +kernel
theorem dX9_now_49 : decode cX9_now 49 = .ok (.if_icmp .ne 10, 3) := by decide +kernel
theorem dX9_now_52 : decode cX9_now 52 = .ok (.aload_n 0, 1) := by decide +kernel
theorem dX9_now_53 : decode cX9_now 53 = .ok (.getfield 11, 3) := by decide +kernel
theorem dX9_now_56 : decode cX9_now 56 = .ok (.goto 4, 3) := by decide +kernel
theorem dX9_now_59 : decode cX9_now 59 = .ok (.iconst (-1), 1) := by decide +kernel
theorem dX9_now_60 : decode cX9_now 60 = .ok (.ireturn, 1) := by decide +kernel
theorem dX9_item_0 : decode cX9_item 0 = .ok (.aload_n 0, 1) := by decide +kernel
theorem dX9_item_1 : decode cX9_item 1 = .ok (.iconst 0, 1) := by decide +kernel
theorem dX9_item_2 : decode cX9_item 2 = .ok (.putfield 1, 3) := by decide +kernel
theorem dX9_item_5 : decode cX9_item 5 = .ok (.aload_n 0, 1) := by decide +kernel
theorem dX9_item_6 : decode cX9_item 6 = .ok (.iload_n 1, 1) := by decide +kernel
theorem dX9_item_7 : decode cX9_item 7 = .ok (.invokevirtual 235, 3) := by decide +kernel
theorem dX9_item_10 : decode cX9_item 10 = .ok (.ifCond .eq 24, 3) := by decide +kernel
theorem dX9_item_13 : decode cX9_item 13 = .ok (.iload_n 2, 1) := by decide +kernel
theorem dX9_item_14 : decode cX9_item 14 = .ok (.iconst 0, 1) := by decide +kernel
theorem dX9_item_15 : decode cX9_item 15 = .ok (.iconst 5, 1) := by decide +kernel
theorem dX9_item_16 : decode cX9_item 16 = .ok (.invokestatic 113, 3) := by decide +kernel
theorem dX9_item_19 : decode cX9_item 19 = .ok (.ifCond .ne 20, 3) := by decide +kernel
theorem dX9_item_22 : decode cX9_item 22 = .ok (.iload_n 2, 1) := by decide +kernel
theorem dX9_item_23 : decode cX9_item 23 = .ok (.bipush 100, 2) := by decide +kernel
theorem dX9_item_25 : decode cX9_item 25 = .ok (.sipush 139, 3) := by decide +kernel
theorem dX9_item_28 : decode cX9_item 28 = .ok (.invokestatic 113, 3) := by decide +kernel
theorem dX9_item_31 : decode cX9_item 31 = .ok (.ifCond .ne 8, 3) := by decide +kernel
theorem dX9_item_34 : decode cX9_item 34 = .ok (.aload_n 0, 1) := by decide +kernel
theorem dX9_item_35 : decode cX9_item 35 = .ok (.invokevirtual 238, 3) := by decide +kernel
theorem dX9_item_38 : decode cX9_item 38 = .ok (.ireturn, 1) := by decide +kernel
theorem dX9_item_39 : decode cX9_item 39 = .ok (.iload_n 2, 1) := by decide +kernel
theorem dX9_item_40 : decode cX9_item 40 = .ok (.iconst 5, 1) := by decide +kernel
theorem dX9_item_41 : decode cX9_item 41 = .ok (.if_icmp .ge 12, 3) := by decide +kernel
theorem dX9_item_44 : decode cX9_item 44 = .ok (.aload_n 0, 1) := by decide +kernel
theorem dX9_item_45 : decode cX9_item 45 = .ok (.iload_n 1, 1) := by decide +kernel
theorem dX9_item_46 : decode cX9_item 46 = .ok (.iload_n 2, 1) := by decide +kernel
theorem dX9_item_47 : decode cX9_item 47 = .ok (.invokevirtual 179, 3) := by decide +kernel
theorem dX9_item_50 : decode cX9_item 50 = .ok (.goto 25, 3) := by decide +kernel
theorem dX9_item_53 : decode cX9_item 53 = .ok (.iload_n 2, 1) := by decide +kernel
theorem dX9_item_54 : decode cX9_item 54 = .ok (.iconst 5, 1) := by decide +kernel
theorem dX9_item_55 : decode cX9_item 55 = .ok (.if_icmp .ne 11, 3) := by decide +kernel
theorem dX9_item_58 : decode cX9_item 58 = .ok (.aload_n 0, 1) := by decide +kernel
theorem dX9_item_59 : decode cX9_item 59 = .ok (.iload_n 1, 1) := by decide +kernel
theorem dX9_item_60 : decode cX9_item 60 = .ok (.invokevirtual 216, 3) := by decide +kernel
theorem dX9_item_63 : decode cX9_item 63 = .ok (.goto 12, 3) := by decide +kernel
theorem dX9_item_66 : decode cX9_item 66 = .ok (.aload_n 0, 1) := by decide +kernel
theorem dX9_item_67 : decode cX9_item 67 = .ok (.iload_n 1, 1) := by decide +kernel
theorem dX9_item_68 : decode cX9_item 68 = .ok (.iload_n 2, 1) := by decide +kernel
theorem dX9_item_69 : decode cX9_item 69 = .ok (.bipush 100, 2) := by decide +kernel
theorem dX9_item_71 : decode cX9_item 71 = .ok (.isub, 1) := by decide +kernel
theorem dX9_item_72 : decode cX9_item 72 = .ok (.invokevirtual 186, 3) := by decide +kernel
theorem dX9_item_75 : decode cX9_item 75 = .ok (.ireturn, 1) := by decide +kernel
theorem dX9_loss_0 : decode cX9_loss 0 = .ok (.aload_n 0, 1) := by decide +kernel
theorem dX9_loss_1 : decode cX9_loss 1 = .ok (.iconst 0, 1) := by decide +kernel
theorem dX9_loss_2 : decode cX9_loss 2 = .ok (.putfield 1, 3) := by decide +kernel
theorem dX9_loss_5 : decode cX9_loss 5 = .ok (.aload_n 0, 1) := by decide +kernel
theorem dX9_loss_6 : decode cX9_loss 6 = .ok (.iload_n 1, 1) := by decide +kernel
theorem dX9_loss_7 : decode cX9_loss 7 = .ok (.invokevirtual 241, 3) := by decide +kernel
theorem dX9_loss_10 : decode cX9_loss 10 = .ok (.ifCond .eq 12, 3) := by decide +kernel
theorem dX9_loss_13 : decode cX9_loss 13 = .ok (.iload_n 2, 1) := by decide +kernel
theorem dX9_loss_14 : decode cX9_loss 14 = .ok (.iconst 0, 1) := by decide +kernel
theorem dX9_loss_15 : decode cX9_loss 15 = .ok (.iconst 3, 1) := by decide +kernel
theorem dX9_loss_16 : decode cX9_loss 16 = .ok (.invokestatic 113, 3) := by decide +kernel
theorem dX9_loss_19 : decode cX9_loss 19 = .ok (.ifCond .ne 8, 3) := by decide +kernel
theorem dX9_loss_22 : decode cX9_loss 22 = .ok (.aload_n 0, 1) := by decide +kernel
theorem dX9_loss_23 : decode cX9_loss 23 = .ok (.invokevirtual 238, 3) := by decide +kernel
theorem dX9_loss_26 : decode cX9_loss 26 = .ok (.ireturn, 1) := by decide +kernel
theorem dX9_loss_27 : decode cX9_loss 27 = .ok (.aload_n 0, 1) := by decide +kernel
theorem dX9_loss_28 : decode cX9_loss 28 = .ok (.iload_n 1, 1) := by decide +kernel
theorem dX9_loss_29 : decode cX9_loss 29 = .ok (.iload_n 2, 1) := by decide +kernel
theorem dX9_loss_30 : decode cX9_loss 30 = .ok (.invokevirtual 189, 3) := by decide +kernel
theorem dX9_loss_33 : decode cX9_loss 33 = .ok (.ireturn, 1) := by decide +kernel
theorem dX9_rate_0 : decode cX9_rate 0 = .ok (.aload_n 0, 1) := by decide +kernel
theorem dX9_rate_1 : decode cX9_rate 1 = .ok (.iconst 0, 1) := by decide +kernel
theorem dX9_rate_2 : decode cX9_rate 2 = .ok (.putfield 1, 3) := by decide +kernel
theorem dX9_rate_5 : decode cX9_rate 5 = .ok (.aload_n 0, 1) := by decide +kernel
theorem dX9_rate_6 : decode cX9_rate 6 = .ok (.iload_n 1, 1) := by decide +kernel
theorem dX9_rate_7 : decode cX9_rate 7 = .ok (.invokevirtual 244, 3) := by decide +kernel
theorem dX9_rate_10 : decode cX9_rate 10 = .ok (.ifCond .eq 19, 3) := by decide +kernel
theorem dX9_rate_13 : decode cX9_rate 13 = .ok (.iload_n 2, 1) := by decide +kernel
theorem dX9_rate_14 : decode cX9_rate 14 = .ok (.invokestatic 247, 3) := by decide +kernel
theorem dX9_rate_17 : decode cX9_rate 17 = .ok (.ifCond .eq 12, 3) := by decide +kernel
theorem dX9_rate_20 : decode cX9_rate 20 = .ok (.aload_n 0, 1) := by decide +kernel
theorem dX9_rate_21 : decode cX9_rate 21 = .ok (.iload_n 1, 1) := by decide +kernel
theorem dX9_rate_22 : decode cX9_rate 22 = .ok (.iload_n 2, 1) := by decide +kernel
theorem dX9_rate_23 : decode cX9_rate 23 = .ok (.invokevirtual 207, 3) := by decide +kernel
theorem dX9_rate_26 : decode cX9_rate 26 = .ok (.goto 4, 3) := by decide +kernel
theorem dX9_rate_29 : decode cX9_rate 29 = .ok (.iconst (-1), 1) := by decide +kernel
theorem dX9_rate_30 : decode cX9_rate 30 = .ok (.ireturn, 1) := by decide +kernel
theorem dX9_covered_0 : decode cX9_covered 0 = .ok (.aload_n 0, 1) := by decide +kernel
theorem dX9_covered_1 : decode cX9_covered 1 = .ok (.iconst 0, 1) := by decide +kernel
theorem dX9_covered_2 : decode cX9_covered 2 = .ok (.putfield 1, 3) := by decide +kernel
theorem dX9_covered_5 : decode cX9_covered 5 = .ok (.aload_n 0, 1) := by decide +kernel
theorem dX9_covered_6 : decode cX9_covered 6 = .ok (.iload_n 1, 1) := by decide +kernel
theorem dX9_covered_7 : decode cX9_covered 7 = .ok (.invokevirtual 244, 3) := by decide +kernel
theorem dX9_covered_10 : decode cX9_covered 10 = .ok (.ifCond .eq 20, 3) := by decide +kernel
theorem dX9_covered_13 : decode cX9_covered 13 = .ok (.aload_n 0, 1) := by decide +kernel
theorem dX9_covered_14 : decode cX9_covered 14 = .ok (.iload_n 2, 1) := by decide +kernel
theorem dX9_covered_15 : decode cX9_covered 15 = .ok (.invokevirtual 250, 3) := by decide +kernel
theorem dX9_covered_18 : decode cX9_covered 18 = .ok (.ifCond .eq 12, 3) := by decide +kernel
theorem dX9_covered_21 : decode cX9_covered 21 = .ok (.iload_n 3, 1) := by decide +kernel
theorem dX9_covered_22 : decode cX9_covered 22 = .ok (.iconst 0, 1) := by decide +kernel
theorem dX9_covered_23 : decode cX9_covered 23 = .ok (.iconst 5, 1) := by decide +kernel
theorem dX9_covered_24 : decode cX9_covered 24 = .ok (.invokestatic 113, 3) := by decide +kernel
theorem dX9_covered_27 : decode cX9_covered 27 = .ok (.ifCond .ne 5, 3) := by decide +kernel
theorem dX9_covered_30 : decode cX9_covered 30 = .ok (.iconst (-1), 1) := by decide +kernel
theorem dX9_covered_31 : decode cX9_covered 31 = .ok (.ireturn, 1) := by decide +kernel
theorem dX9_covered_32 : decode cX9_covered 32 = .ok (.aload_n 0, 1) := by decide +kernel
theorem dX9_covered_33 : decode cX9_covered 33 = .ok (.iload_n 1, 1) := by decide +kernel
theorem dX9_covered_34 : decode cX9_covered 34 = .ok (.iconst (-1), 1) := by decide +kernel
theorem dX9_covered_35 : decode cX9_covered 35 = .ok (.iconst 0, 1) := by decide +kernel
theorem dX9_covered_36 : decode cX9_covered 36 = .ok (.invokevirtual 219, 3) := by decide +kernel
theorem dX9_covered_39 : decode cX9_covered 39 = .ok (.iload_n 3, 1) := by decide +kernel
theorem dX9_covered_40 : decode cX9_covered 40 = .ok (.tableswitch 71 0 4 #[36, 43, 50, 57, 64], 36) := by decide +kernel
theorem dX9_covered_76 : decode cX9_covered 76 = .ok (.aload_n 0, 1) := by decide +kernel
theorem dX9_covered_77 : decode cX9_covered 77 = .ok (.getfield 89, 3) := by decide +kernel
theorem dX9_covered_80 : decode cX9_covered 80 = .ok (.iload_n 2, 1) := by decide +kernel
theorem dX9_covered_81 : decode cX9_covered 81 = .ok (.iaload, 1) := by decide +kernel
theorem dX9_covered_82 : decode cX9_covered 82 = .ok (.ireturn, 1) := by decide +kernel
theorem dX9_covered_83 : decode cX9_covered 83 = .ok (.aload_n 0, 1) := by decide +kernel
theorem dX9_covered_84 : decode cX9_covered 84 = .ok (.getfield 92, 3) := by decide +kernel
theorem dX9_covered_87 : decode cX9_covered 87 = .ok (.iload_n 2, 1) := by decide +kernel
theorem dX9_covered_88 : decode cX9_covered 88 = .ok (.iaload, 1) := by decide +kernel
theorem dX9_covered_89 : decode cX9_covered 89 = .ok (.ireturn, 1) := by decide +kernel
theorem dX9_covered_90 : decode cX9_covered 90 = .ok (.aload_n 0, 1) := by decide +kernel
theorem dX9_covered_91 : decode cX9_covered 91 = .ok (.getfield 95, 3) := by decide +kernel
theorem dX9_covered_94 : decode cX9_covered 94 = .ok (.iload_n 2, 1) := by decide +kernel
theorem dX9_covered_95 : decode cX9_covered 95 = .ok (.iaload, 1) := by decide +kernel
theorem dX9_covered_96 : decode cX9_covered 96 = .ok (.ireturn, 1) := by decide +kernel
theorem dX9_covered_97 : decode cX9_covered 97 = .ok (.aload_n 0, 1) := by decide +kernel
theorem dX9_covered_98 : decode cX9_covered 98 = .ok (.getfield 98, 3) := by decide +kernel
theorem dX9_covered_101 : decode cX9_covered 101 = .ok (.iload_n 2, 1) := by decide +kernel
theorem dX9_covered_102 : decode cX9_covered 102 = .ok (.iaload, 1) := by decide +kernel
theorem dX9_covered_103 : decode cX9_covered 103 = .ok (.ireturn, 1) := by decide +kernel
theorem dX9_covered_104 : decode cX9_covered 104 = .ok (.aload_n 0, 1) := by decide +kernel
theorem dX9_covered_105 : decode cX9_covered 105 = .ok (.getfield 101, 3) := by decide +kernel
theorem dX9_covered_108 : decode cX9_covered 108 = .ok (.iload_n 2, 1) := by decide +kernel
theorem dX9_covered_109 : decode cX9_covered 109 = .ok (.iaload, 1) := by decide +kernel
theorem dX9_covered_110 : decode cX9_covered 110 = .ok (.ireturn, 1) := by decide +kernel
theorem dX9_covered_111 : decode cX9_covered 111 = .ok (.aload_n 0, 1) := by decide +kernel
theorem dX9_covered_112 : decode cX9_covered 112 = .ok (.getfield 104, 3) := by decide +kernel
theorem dX9_covered_115 : decode cX9_covered 115 = .ok (.iload_n 2, 1) := by decide +kernel
theorem dX9_covered_116 : decode cX9_covered 116 = .ok (.iaload, 1) := by decide +kernel
theorem dX9_covered_117 : decode cX9_covered 117 = .ok (.ireturn, 1) := by decide +kernel
theorem dX9_balance_0 : decode cX9_balance 0 = .ok (.aload_n 0, 1) := by decide +kernel
theorem dX9_balance_1 : decode cX9_balance 1 = .ok (.iconst 0, 1) := by decide +kernel
theorem dX9_balance_2 : decode cX9_balance 2 = .ok (.putfield 1, 3) := by decide +kernel
theorem dX9_balance_5 : decode cX9_balance 5 = .ok (.iload_n 1, 1) := by decide +kernel
theorem dX9_balance_6 : decode cX9_balance 6 = .ok (.iconst (-1), 1) := by decide +kernel
theorem dX9_balance_7 : decode cX9_balance 7 = .ok (.if_icmp .eq 33, 3) := by decide +kernel
theorem dX9_balance_10 : decode cX9_balance 10 = .ok (.aload_n 0, 1) := by decide +kernel
theorem dX9_balance_11 : decode cX9_balance 11 = .ok (.iload_n 1, 1) := by decide +kernel
theorem dX9_balance_12 : decode cX9_balance 12 = .ok (.invokevirtual 244, 3) := by decide +kernel
theorem dX9_balance_15 : decode cX9_balance 15 = .ok (.ifCond .eq 21, 3) := by decide +kernel
theorem dX9_balance_18 : decode cX9_balance 18 = .ok (.iload_n 2, 1) := by decide +kernel
theorem dX9_balance_19 : decode cX9_balance 19 = .ok (.iconst 0, 1) := by decide +kernel
theorem dX9_balance_20 : decode cX9_balance 20 = .ok (.iconst 3, 1) := by decide +kernel
theorem dX9_balance_21 : decode cX9_balance 21 = .ok (.invokestatic 113, 3) := by decide +kernel
theorem dX9_balance_24 : decode cX9_balance 24 = .ok (.ifCond .eq 12, 3) := by decide +kernel
theorem dX9_balance_27 : decode cX9_balance 27 = .ok (.aload_n 0, 1) := by decide +kernel
theorem dX9_balance_28 : decode cX9_balance 28 = .ok (.iload_n 1, 1) := by decide +kernel
theorem dX9_balance_29 : decode cX9_balance 29 = .ok (.iload_n 2, 1) := by decide +kernel
theorem dX9_balance_30 : decode cX9_balance 30 = .ok (.invokevirtual 253, 3) := by decide +kernel
theorem dX9_balance_33 : decode cX9_balance 33 = .ok (.goto 6, 3) := by decide +kernel
theorem dX9_balance_36 : decode cX9_balance 36 = .ok (.ldc_w 256, 3) := by decide +kernel
theorem dX9_balance_39 : decode cX9_balance 39 = .ok (.ireturn, 1) := by decide +kernel
theorem dX9_balance_40 : decode cX9_balance 40 = .ok (.iload_n 2, 1) := by decide +kernel
theorem dX9_balance_41 : decode cX9_balance 41 = .ok (.iconst 0, 1) := by decide +kernel
theorem dX9_balance_42 : decode cX9_balance 42 = .ok (.iconst 4, 1) := by decide +kernel
theorem dX9_balance_43 : decode cX9_balance 43 = .ok (.invokestatic 113, 3) := by decide +kernel
theorem dX9_balance_46 : decode cX9_balance 46 = .ok (.ifCond .ne 7, 3) := by decide +kernel
theorem dX9_balance_49 : decode cX9_balance 49 = .ok (.ldc_w 256, 3) := by decide +kernel
theorem dX9_balance_52 : decode cX9_balance 52 = .ok (.ireturn, 1) := by decide +kernel
theorem dX9_balance_53 : decode cX9_balance 53 = .ok (.iconst 0, 1) := by decide +kernel
theorem dX9_balance_54 : decode cX9_balance 54 = .ok (.istore_n 3, 1) := by decide +kernel
theorem dX9_balance_55 : decode cX9_balance 55 = .ok (.iconst 0, 1) := by decide +kernel
theorem dX9_balance_56 : decode cX9_balance 56 = .ok (.istore 4, 2) := by decide +kernel
theorem dX9_balance_58 : decode cX9_balance 58 = .ok (.iload 4, 2) := by decide +kernel
theorem dX9_balance_60 : decode cX9_balance 60 = .ok (.aload_n 0, 1) := by decide +kernel
theorem dX9_balance_61 : decode cX9_balance 61 = .ok (.getfield 74, 3) := by decide +kernel
theorem dX9_balance_64 : decode cX9_balance 64 = .ok (.iconst 2, 1) := by decide +kernel
theorem dX9_balance_65 : decode cX9_balance 65 = .ok (.iaload, 1) := by decide +kernel
theorem dX9_balance_66 : decode cX9_balance 66 = .ok (.if_icmp .ge 71, 3) := by decide +kernel
theorem dX9_balance_69 : decode cX9_balance 69 = .ok (.aload_n 0, 1) := by decide +kernel
theorem dX9_balance_70 : decode cX9_balance 70 = .ok (.iload 4, 2) := by decide +kernel
theorem dX9_balance_72 : decode cX9_balance 72 = .ok (.iload_n 2, 1) := by decide +kernel
theorem dX9_balance_73 : decode cX9_balance 73 = .ok (.iconst 3, 1) := by decide +kernel
theorem dX9_balance_74 : decode cX9_balance 74 = .ok (.if_icmp .ge 7, 3) := by decide +kernel
theorem dX9_balance_77 : decode cX9_balance 77 = .ok (.iload_n 2, 1) := by decide +kernel
theorem dX9_balance_78 : decode cX9_balance 78 = .ok (.goto 4, 3) := by decide +kernel
theorem dX9_balance_81 : decode cX9_balance 81 = .ok (.iconst 3, 1) := by decide +kernel
theorem dX9_balance_82 : decode cX9_balance 82 = .ok (.invokevirtual 253, 3) := by decide +kernel
theorem dX9_balance_85 : decode cX9_balance 85 = .ok (.istore 5, 2) := by decide +kernel
theorem dX9_balance_87 : decode cX9_balance 87 = .ok (.iload_n 3, 1) := by decide +kernel
theorem dX9_balance_88 : decode cX9_balance 88 = .ok (.iload_n 2, 1) := by decide +kernel
theorem dX9_balance_89 : decode cX9_balance 89 = .ok (.iconst 3, 1) := by decide +kernel
theorem dX9_balance_90 : decode cX9_balance 90 = .ok (.if_icmp .ge 8, 3) := by decide +kernel
theorem dX9_balance_93 : decode cX9_balance 93 = .ok (.iload 5, 2) := by decide +kernel
theorem dX9_balance_95 : decode cX9_balance 95 = .ok (.goto 34, 3) := by decide +kernel
theorem dX9_balance_98 : decode cX9_balance 98 = .ok (.iload_n 2, 1) := by decide +kernel
theorem dX9_balance_99 : decode cX9_balance 99 = .ok (.iconst 3, 1) := by decide +kernel
theorem dX9_balance_100 : decode cX9_balance 100 = .ok (.if_icmp .ne 17, 3) := by decide +kernel
theorem dX9_balance_103 : decode cX9_balance 103 = .ok (.iload 5, 2) := by decide +kernel
theorem dX9_balance_105 : decode cX9_balance 105 = .ok (.ifCond .le 8, 3) := by decide +kernel
theorem dX9_balance_108 : decode cX9_balance 108 = .ok (.iload 5, 2) := by decide +kernel
theorem dX9_balance_110 : decode cX9_balance 110 = .ok (.goto 19, 3) := by decide +kernel
theorem dX9_balance_113 : decode cX9_balance 113 = .ok (.iconst 0, 1) := by decide +kernel
theorem dX9_balance_114 : decode cX9_balance 114 = .ok (.goto 15, 3) := by decide +kernel
theorem dX9_balance_117 : decode cX9_balance 117 = .ok (.iload 5, 2) := by decide +kernel
theorem dX9_balance_119 : decode cX9_balance 119 = .ok (.ifCond .ge 9, 3) := by decide +kernel
theorem dX9_balance_122 : decode cX9_balance 122 = .ok (.iload 5, 2) := by decide +kernel
theorem dX9_balance_124 : decode cX9_balance 124 = .ok (.ineg, 1) := by decide +kernel
theorem dX9_balance_125 : decode cX9_balance 125 = .ok (.goto 4, 3) := by decide +kernel
theorem dX9_balance_128 : decode cX9_balance 128 = .ok (.iconst 0, 1) := by decide +kernel
theorem dX9_balance_129 : decode cX9_balance 129 = .ok (.iadd, 1) := by decide +kernel
theorem dX9_balance_130 : decode cX9_balance 130 = .ok (.istore_n 3, 1) := by decide +kernel
theorem dX9_balance_131 : decode cX9_balance 131 = .ok (.iinc 4 1, 3) := by decide +kernel
theorem dX9_balance_134 : decode cX9_balance 134 = .ok (.goto (-76), 3) := by decide +kernel
theorem dX9_balance_137 : decode cX9_balance 137 = .ok (.iload_n 3, 1) := by decide +kernel
theorem dX9_balance_138 : decode cX9_balance 138 = .ok (.ireturn, 1) := by decide +kernel
theorem dX9_closingAt_0 : decode cX9_closingAt 0 = .ok (.sipush 435, 3) := by decide +kernel
theorem dX9_closingAt_3 : decode cX9_closingAt 3 = .ok (.sipush 240, 3) := by decide +kernel
theorem dX9_closingAt_6 : decode cX9_closingAt 6 = .ok (.iload_n 0, 1) := by decide +kernel
theorem dX9_closingAt_7 : decode cX9_closingAt 7 = .ok (.imul, 1) := by decide +kernel
theorem dX9_closingAt_8 : decode cX9_closingAt 8 = .ok (.iadd, 1) := by decide +kernel
theorem dX9_closingAt_9 : decode cX9_closingAt 9 = .ok (.bipush 6, 2) := by decide +kernel
theorem dX9_closingAt_11 : decode cX9_closingAt 11 = .ok (.iload_n 1, 1) := by decide +kernel
theorem dX9_closingAt_12 : decode cX9_closingAt 12 = .ok (.imul, 1) := by decide +kernel
theorem dX9_closingAt_13 : decode cX9_closingAt 13 = .ok (.iadd, 1) := by decide +kernel
theorem dX9_closingAt_14 : decode cX9_closingAt 14 = .ok (.ireturn, 1) := by decide +kernel
theorem dX9_closing_0 : decode cX9_closing 0 = .ok (.aload_n 0, 1) := by decide +kernel
theorem dX9_closing_1 : decode cX9_closing 1 = .ok (.iconst 0, 1) := by decide +kernel
theorem dX9_closing_2 : decode cX9_closing 2 = .ok (.putfield 1, 3) := by decide +kernel
theorem dX9_closing_5 : decode cX9_closing 5 = .ok (.aload_n 0, 1) := by decide +kernel
theorem dX9_closing_6 : decode cX9_closing 6 = .ok (.iload_n 1, 1) := by decide +kernel
theorem dX9_closing_7 : decode cX9_closing 7 = .ok (.invokevirtual 244, 3) := by decide +kernel
theorem dX9_closing_10 : decode cX9_closing 10 = .ok (.ifCond .eq 29, 3) := by decide +kernel
theorem dX9_closing_13 : decode cX9_closing 13 = .ok (.iload_n 2, 1) := by decide +kernel
theorem dX9_closing_14 : decode cX9_closing 14 = .ok (.iconst 0, 1) := by decide +kernel
theorem dX9_closing_15 : decode cX9_closing 15 = .ok (.aload_n 0, 1) := by decide +kernel
theorem dX9_closing_16 : decode cX9_closing 16 = .ok (.getfield 74, 3) := by decide +kernel
theorem dX9_closing_19 : decode cX9_closing 19 = .ok (.iconst 0, 1) := by decide +kernel
theorem dX9_closing_20 : decode cX9_closing 20 = .ok (.iaload, 1) := by decide +kernel
theorem dX9_closing_21 : decode cX9_closing 21 = .ok (.iconst 1, 1) := by decide +kernel
theorem dX9_closing_22 : decode cX9_closing 22 = .ok (.isub, 1) := by decide +kernel
theorem dX9_closing_23 : decode cX9_closing 23 = .ok (.invokestatic 113, 3) := by decide +kernel
theorem dX9_closing_26 : decode cX9_closing 26 = .ok (.ifCond .eq 13, 3) := by decide +kernel
theorem dX9_closing_29 : decode cX9_closing 29 = .ok (.iload_n 3, 1) := by decide +kernel
theorem dX9_closing_30 : decode cX9_closing 30 = .ok (.iconst 0, 1) := by decide +kernel
theorem dX9_closing_31 : decode cX9_closing 31 = .ok (.bipush 6, 2) := by decide +kernel
theorem dX9_closing_33 : decode cX9_closing 33 = .ok (.invokestatic 113, 3) := by decide +kernel
theorem dX9_closing_36 : decode cX9_closing 36 = .ok (.ifCond .ne 7, 3) := by decide +kernel
theorem dX9_closing_39 : decode cX9_closing 39 = .ok (.ldc_w 256, 3) := by decide +kernel
theorem dX9_closing_42 : decode cX9_closing 42 = .ok (.ireturn, 1) := by decide +kernel
theorem dX9_closing_43 : decode cX9_closing 43 = .ok (.iload_n 1, 1) := by decide +kernel
theorem dX9_closing_44 : decode cX9_closing 44 = .ok (.iload_n 2, 1) := by decide +kernel
theorem dX9_closing_45 : decode cX9_closing 45 = .ok (.invokestatic 257, 3) := by decide +kernel
theorem dX9_closing_48 : decode cX9_closing 48 = .ok (.istore 4, 2) := by decide +kernel
theorem dX9_closing_50 : decode cX9_closing 50 = .ok (.iload_n 3, 1) := by decide +kernel
theorem dX9_closing_51 : decode cX9_closing 51 = .ok (.iconst 5, 1) := by decide +kernel
theorem dX9_closing_52 : decode cX9_closing 52 = .ok (.if_icmp .ge 13, 3) := by decide +kernel
theorem dX9_closing_55 : decode cX9_closing 55 = .ok (.aload_n 0, 1) := by decide +kernel
theorem dX9_closing_56 : decode cX9_closing 56 = .ok (.getfield 74, 3) := by decide +kernel
theorem dX9_closing_59 : decode cX9_closing 59 = .ok (.iload 4, 2) := by decide +kernel
theorem dX9_closing_61 : decode cX9_closing 61 = .ok (.iload_n 3, 1) := by decide +kernel
theorem dX9_closing_62 : decode cX9_closing 62 = .ok (.iadd, 1) := by decide +kernel
theorem dX9_closing_63 : decode cX9_closing 63 = .ok (.iaload, 1) := by decide +kernel
theorem dX9_closing_64 : decode cX9_closing 64 = .ok (.ireturn, 1) := by decide +kernel
theorem dX9_closing_65 : decode cX9_closing 65 = .ok (.iload_n 3, 1) := by decide +kernel
theorem dX9_closing_66 : decode cX9_closing 66 = .ok (.iconst 5, 1) := by decide +kernel
theorem dX9_closing_67 : decode cX9_closing 67 = .ok (.if_icmp .ne 25, 3) := by decide +kernel
theorem dX9_closing_70 : decode cX9_closing 70 = .ok (.aload_n 0, 1) := by decide +kernel
theorem dX9_closing_71 : decode cX9_closing 71 = .ok (.getfield 74, 3) := by decide +kernel
theorem dX9_closing_74 : decode cX9_closing 74 = .ok (.iload 4, 2) := by decide +kernel
theorem dX9_closing_76 : decode cX9_closing 76 = .ok (.iconst 3, 1) := by decide +kernel
theorem dX9_closing_77 : decode cX9_closing 77 = .ok (.iadd, 1) := by decide +kernel
theorem dX9_closing_78 : decode cX9_closing 78 = .ok (.iaload, 1) := by decide +kernel
theorem dX9_closing_79 : decode cX9_closing 79 = .ok (.aload_n 0, 1) := by decide +kernel
theorem dX9_closing_80 : decode cX9_closing 80 = .ok (.getfield 74, 3) := by decide +kernel
theorem dX9_closing_83 : decode cX9_closing 83 = .ok (.iload 4, 2) := by decide +kernel
theorem dX9_closing_85 : decode cX9_closing 85 = .ok (.iconst 4, 1) := by decide +kernel
theorem dX9_closing_86 : decode cX9_closing 86 = .ok (.iadd, 1) := by decide +kernel
theorem dX9_closing_87 : decode cX9_closing 87 = .ok (.iaload, 1) := by decide +kernel
theorem dX9_closing_88 : decode cX9_closing 88 = .ok (.isub, 1) := by decide +kernel
theorem dX9_closing_89 : decode cX9_closing 89 = .ok (.goto 12, 3) := by decide +kernel
theorem dX9_closing_92 : decode cX9_closing 92 = .ok (.aload_n 0, 1) := by decide +kernel
theorem dX9_closing_93 : decode cX9_closing 93 = .ok (.getfield 74, 3) := by decide +kernel
theorem dX9_closing_96 : decode cX9_closing 96 = .ok (.iload 4, 2) := by decide +kernel
theorem dX9_closing_98 : decode cX9_closing 98 = .ok (.iconst 5, 1) := by decide +kernel
theorem dX9_closing_99 : decode cX9_closing 99 = .ok (.iadd, 1) := by decide +kernel
theorem dX9_closing_100 : decode cX9_closing 100 = .ok (.iaload, 1) := by decide +kernel
theorem dX9_closing_101 : decode cX9_closing 101 = .ok (.ireturn, 1) := by decide +kernel
theorem dX9_canEnact_0 : decode cX9_canEnact 0 = .ok (.aload_n 0, 1) := by decide +kernel
theorem dX9_canEnact_1 : decode cX9_canEnact 1 = .ok (.iload_n 1, 1) := by decide +kernel
theorem dX9_canEnact_2 : decode cX9_canEnact 2 = .ok (.invokevirtual 244, 3) := by decide +kernel
theorem dX9_canEnact_5 : decode cX9_canEnact 5 = .ok (.ifCond .eq 33, 3) := by decide +kernel
theorem dX9_canEnact_8 : decode cX9_canEnact 8 = .ok (.iload_n 2, 1) := by decide +kernel
theorem dX9_canEnact_9 : decode cX9_canEnact 9 = .ok (.aload_n 0, 1) := by decide +kernel
theorem dX9_canEnact_10 : decode cX9_canEnact 10 = .ok (.getfield 74, 3) := by decide +kernel
theorem dX9_canEnact_13 : decode cX9_canEnact 13 = .ok (.iconst 0, 1) := by decide +kernel
theorem dX9_canEnact_14 : decode cX9_canEnact 14 = .ok (.iaload, 1) := by decide +kernel
theorem dX9_canEnact_15 : decode cX9_canEnact 15 = .ok (.bipush 39, 2) := by decide +kernel
theorem dX9_canEnact_17 : decode cX9_canEnact 17 = .ok (.invokestatic 113, 3) := by decide +kernel
theorem dX9_canEnact_20 : decode cX9_canEnact 20 = .ok (.ifCond .eq 18, 3) := by decide +kernel
theorem dX9_canEnact_23 : decode cX9_canEnact 23 = .ok (.iload_n 3, 1) := by decide +kernel
theorem dX9_canEnact_24 : decode cX9_canEnact 24 = .ok (.iconst 0, 1) := by decide +kernel
theorem dX9_canEnact_25 : decode cX9_canEnact 25 = .ok (.sipush 900, 3) := by decide +kernel
theorem dX9_canEnact_28 : decode cX9_canEnact 28 = .ok (.invokestatic 113, 3) := by decide +kernel
theorem dX9_canEnact_31 : decode cX9_canEnact 31 = .ok (.ifCond .eq 7, 3) := by decide +kernel
theorem dX9_canEnact_34 : decode cX9_canEnact 34 = .ok (.iconst 1, 1) := by decide +kernel
theorem dX9_canEnact_35 : decode cX9_canEnact 35 = .ok (.goto 4, 3) := by decide +kernel
theorem dX9_canEnact_38 : decode cX9_canEnact 38 = .ok (.iconst 0, 1) := by decide +kernel
theorem dX9_canEnact_39 : decode cX9_canEnact 39 = .ok (.ireturn, 1) := by decide +kernel
theorem dX9_would_0 : decode cX9_would 0 = .ok (.aload_n 0, 1) := by decide +kernel
theorem dX9_would_1 : decode cX9_would 1 = .ok (.iconst 0, 1) := by decide +kernel
theorem dX9_would_2 : decode cX9_would 2 = .ok (.putfield 1, 3) := by decide +kernel
theorem dX9_would_5 : decode cX9_would 5 = .ok (.aload_n 0, 1) := by decide +kernel
theorem dX9_would_6 : decode cX9_would 6 = .ok (.iload_n 1, 1) := by decide +kernel
theorem dX9_would_7 : decode cX9_would 7 = .ok (.iload_n 2, 1) := by decide +kernel
theorem dX9_would_8 : decode cX9_would 8 = .ok (.iload_n 3, 1) := by decide +kernel
theorem dX9_would_9 : decode cX9_would 9 = .ok (.invokevirtual 260, 3) := by decide +kernel
theorem dX9_would_12 : decode cX9_would 12 = .ok (.ifCond .ne 7, 3) := by decide +kernel
theorem dX9_would_15 : decode cX9_would 15 = .ok (.ldc_w 256, 3) := by decide +kernel
theorem dX9_would_18 : decode cX9_would 18 = .ok (.ireturn, 1) := by decide +kernel
theorem dX9_would_19 : decode cX9_would 19 = .ok (.iconst 0, 1) := by decide +kernel
theorem dX9_would_20 : decode cX9_would 20 = .ok (.istore 4, 2) := by decide +kernel
theorem dX9_would_22 : decode cX9_would 22 = .ok (.iload 4, 2) := by decide +kernel
theorem dX9_would_24 : decode cX9_would 24 = .ok (.bipush 40, 2) := by decide +kernel
theorem dX9_would_26 : decode cX9_would 26 = .ok (.if_icmp .ge 23, 3) := by decide +kernel
theorem dX9_would_29 : decode cX9_would 29 = .ok (.aload_n 0, 1) := by decide +kernel
theorem dX9_would_30 : decode cX9_would 30 = .ok (.getfield 107, 3) := by decide +kernel
theorem dX9_would_33 : decode cX9_would 33 = .ok (.iload 4, 2) := by decide +kernel
theorem dX9_would_35 : decode cX9_would 35 = .ok (.aload_n 0, 1) := by decide +kernel
theorem dX9_would_36 : decode cX9_would 36 = .ok (.iload_n 1, 1) := by decide +kernel
theorem dX9_would_37 : decode cX9_would 37 = .ok (.iload 4, 2) := by decide +kernel
theorem dX9_would_39 : decode cX9_would 39 = .ok (.invokevirtual 207, 3) := by decide +kernel
theorem dX9_would_42 : decode cX9_would 42 = .ok (.iastore, 1) := by decide +kernel
theorem dX9_would_43 : decode cX9_would 43 = .ok (.iinc 4 1, 3) := by decide +kernel
theorem dX9_would_46 : decode cX9_would 46 = .ok (.goto (-24), 3) := by decide +kernel
theorem dX9_would_49 : decode cX9_would 49 = .ok (.aload_n 0, 1) := by decide +kernel
theorem dX9_would_50 : decode cX9_would 50 = .ok (.getfield 74, 3) := by decide +kernel
theorem dX9_would_53 : decode cX9_would 53 = .ok (.iload_n 1, 1) := by decide +kernel
theorem dX9_would_54 : decode cX9_would 54 = .ok (.iload_n 2, 1) := by decide +kernel
theorem dX9_would_55 : decode cX9_would 55 = .ok (.iload_n 3, 1) := by decide +kernel
theorem dX9_would_56 : decode cX9_would 56 = .ok (.invokestatic 139, 3) := by decide +kernel
theorem dX9_would_59 : decode cX9_would 59 = .ok (.aload_n 0, 1) := by decide +kernel
theorem dX9_would_60 : decode cX9_would 60 = .ok (.iload_n 1, 1) := by decide +kernel
theorem dX9_would_61 : decode cX9_would 61 = .ok (.iconst 3, 1) := by decide +kernel
theorem dX9_would_62 : decode cX9_would 62 = .ok (.invokevirtual 253, 3) := by decide +kernel
theorem dX9_would_65 : decode cX9_would 65 = .ok (.istore 4, 2) := by decide +kernel
theorem dX9_would_67 : decode cX9_would 67 = .ok (.iconst 0, 1) := by decide +kernel
theorem dX9_would_68 : decode cX9_would 68 = .ok (.istore 5, 2) := by decide +kernel
theorem dX9_would_70 : decode cX9_would 70 = .ok (.iload 5, 2) := by decide +kernel
theorem dX9_would_72 : decode cX9_would 72 = .ok (.bipush 40, 2) := by decide +kernel
theorem dX9_would_74 : decode cX9_would 74 = .ok (.if_icmp .ge 30, 3) := by decide +kernel
theorem dX9_would_77 : decode cX9_would 77 = .ok (.aload_n 0, 1) := by decide +kernel
theorem dX9_would_78 : decode cX9_would 78 = .ok (.getfield 74, 3) := by decide +kernel
theorem dX9_would_81 : decode cX9_would 81 = .ok (.iconst 5, 1) := by decide +kernel
theorem dX9_would_82 : decode cX9_would 82 = .ok (.bipush 40, 2) := by decide +kernel
theorem dX9_would_84 : decode cX9_would 84 = .ok (.iload_n 1, 1) := by decide +kernel
theorem dX9_would_85 : decode cX9_would 85 = .ok (.imul, 1) := by decide +kernel
theorem dX9_would_86 : decode cX9_would 86 = .ok (.iadd, 1) := by decide +kernel
theorem dX9_would_87 : decode cX9_would 87 = .ok (.iload 5, 2) := by decide +kernel
theorem dX9_would_89 : decode cX9_would 89 = .ok (.iadd, 1) := by decide +kernel
theorem dX9_would_90 : decode cX9_would 90 = .ok (.aload_n 0, 1) := by decide +kernel
theorem dX9_would_91 : decode cX9_would 91 = .ok (.getfield 107, 3) := by decide +kernel
theorem dX9_would_94 : decode cX9_would 94 = .ok (.iload 5, 2) := by decide +kernel
theorem dX9_would_96 : decode cX9_would 96 = .ok (.iaload, 1) := by decide +kernel
theorem dX9_would_97 : decode cX9_would 97 = .ok (.iastore, 1) := by decide +kernel
theorem dX9_would_98 : decode cX9_would 98 = .ok (.iinc 5 1, 3) := by decide +kernel
theorem dX9_would_101 : decode cX9_would 101 = .ok (.goto (-31), 3) := by decide +kernel
theorem dX9_would_104 : decode cX9_would 104 = .ok (.iload 4, 2) := by decide +kernel
theorem dX9_would_106 : decode cX9_would 106 = .ok (.ireturn, 1) := by decide +kernel
theorem dX9_isEnough_0 : decode cX9_isEnough 0 = .ok (.aload_n 0, 1) := by decide +kernel
theorem dX9_isEnough_1 : decode cX9_isEnough 1 = .ok (.iload_n 1, 1) := by decide +kernel
theorem dX9_isEnough_2 : decode cX9_isEnough 2 = .ok (.iload_n 2, 1) := by decide +kernel
theorem dX9_isEnough_3 : decode cX9_isEnough 3 = .ok (.iload_n 3, 1) := by decide +kernel
theorem dX9_isEnough_4 : decode cX9_isEnough 4 = .ok (.invokevirtual 219, 3) := by decide +kernel
theorem dX9_isEnough_7 : decode cX9_isEnough 7 = .ok (.aload_n 0, 1) := by decide +kernel
theorem dX9_isEnough_8 : decode cX9_isEnough 8 = .ok (.iload_n 1, 1) := by decide +kernel
theorem dX9_isEnough_9 : decode cX9_isEnough 9 = .ok (.invokevirtual 229, 3) := by decide +kernel
theorem dX9_isEnough_12 : decode cX9_isEnough 12 = .ok (.ifCond .ne 7, 3) := by decide +kernel
theorem dX9_isEnough_15 : decode cX9_isEnough 15 = .ok (.iconst 1, 1) := by decide +kernel
theorem dX9_isEnough_16 : decode cX9_isEnough 16 = .ok (.goto 4, 3) := by decide +kernel
theorem dX9_isEnough_19 : decode cX9_isEnough 19 = .ok (.iconst 0, 1) := by decide +kernel
theorem dX9_isEnough_20 : decode cX9_isEnough 20 = .ok (.ireturn, 1) := by decide +kernel
theorem dX9_needs_0 : decode cX9_needs 0 = .ok (.aload_n 0, 1) := by decide +kernel
theorem dX9_needs_1 : decode cX9_needs 1 = .ok (.iconst 0, 1) := by decide +kernel
theorem dX9_needs_2 : decode cX9_needs 2 = .ok (.putfield 1, 3) := by decide +kernel
theorem dX9_needs_5 : decode cX9_needs 5 = .ok (.aload_n 0, 1) := by decide +kernel
theorem dX9_needs_6 : decode cX9_needs 6 = .ok (.iload_n 1, 1) := by decide +kernel
theorem dX9_needs_7 : decode cX9_needs 7 = .ok (.invokevirtual 244, 3) := by decide +kernel
theorem dX9_needs_10 : decode cX9_needs 10 = .ok (.ifCond .eq 11, 3) := by decide +kernel
theorem dX9_needs_13 : decode cX9_needs 13 = .ok (.aload_n 0, 1) := by decide +kernel
theorem dX9_needs_14 : decode cX9_needs 14 = .ok (.iload_n 2, 1) := by decide +kernel
theorem dX9_needs_15 : decode cX9_needs 15 = .ok (.invokevirtual 250, 3) := by decide +kernel
theorem dX9_needs_18 : decode cX9_needs 18 = .ok (.ifCond .ne 5, 3) := by decide +kernel
theorem dX9_needs_21 : decode cX9_needs 21 = .ok (.iconst (-1), 1) := by decide +kernel
theorem dX9_needs_22 : decode cX9_needs 22 = .ok (.ireturn, 1) := by decide +kernel
theorem dX9_needs_23 : decode cX9_needs 23 = .ok (.aload_n 0, 1) := by decide +kernel
theorem dX9_needs_24 : decode cX9_needs 24 = .ok (.iload_n 1, 1) := by decide +kernel
theorem dX9_needs_25 : decode cX9_needs 25 = .ok (.iload_n 2, 1) := by decide +kernel
theorem dX9_needs_26 : decode cX9_needs 26 = .ok (.ldc 146, 2) := by decide +kernel
theorem dX9_needs_28 : decode cX9_needs 28 = .ok (.invokevirtual 263, 3) := by decide +kernel
theorem dX9_needs_31 : decode cX9_needs 31 = .ok (.ifCond .ne 6, 3) := by decide +kernel
theorem dX9_needs_34 : decode cX9_needs 34 = .ok (.bipush (-2), 2) := by decide +kernel
theorem dX9_needs_36 : decode cX9_needs 36 = .ok (.ireturn, 1) := by decide +kernel
theorem dX9_needs_37 : decode cX9_needs 37 = .ok (.iconst 0, 1) := by decide +kernel
theorem dX9_needs_38 : decode cX9_needs 38 = .ok (.istore_n 3, 1) := by decide +kernel
theorem dX9_needs_39 : decode cX9_needs 39 = .ok (.ldc 146, 2) := by decide +kernel
theorem dX9_needs_41 : decode cX9_needs 41 = .ok (.istore 4, 2) := by decide +kernel
theorem dX9_needs_43 : decode cX9_needs 43 = .ok (.iload_n 3, 1) := by decide +kernel
theorem dX9_needs_44 : decode cX9_needs 44 = .ok (.iload 4, 2) := by decide +kernel
theorem dX9_needs_46 : decode cX9_needs 46 = .ok (.if_icmp .ge 37, 3) := by decide +kernel
theorem dX9_needs_49 : decode cX9_needs 49 = .ok (.iload_n 3, 1) := by decide +kernel
theorem dX9_needs_50 : decode cX9_needs 50 = .ok (.iload 4, 2) := by decide +kernel
theorem dX9_needs_52 : decode cX9_needs 52 = .ok (.iadd, 1) := by decide +kernel
theorem dX9_needs_53 : decode cX9_needs 53 = .ok (.iconst 2, 1) := by decide +kernel
theorem dX9_needs_54 : decode cX9_needs 54 = .ok (.idiv, 1) := by decide +kernel
theorem dX9_needs_55 : decode cX9_needs 55 = .ok (.istore 5, 2) := by decide +kernel
theorem dX9_needs_57 : decode cX9_needs 57 = .ok (.aload_n 0, 1) := by decide +kernel
theorem dX9_needs_58 : decode cX9_needs 58 = .ok (.iload_n 1, 1) := by decide +kernel
theorem dX9_needs_59 : decode cX9_needs 59 = .ok (.iload_n 2, 1) := by decide +kernel
theorem dX9_needs_60 : decode cX9_needs 60 = .ok (.iload 5, 2) := by decide +kernel
theorem dX9_needs_62 : decode cX9_needs 62 = .ok (.invokevirtual 263, 3) := by decide +kernel
theorem dX9_needs_65 : decode cX9_needs 65 = .ok (.ifCond .eq 10, 3) := by decide +kernel
theorem dX9_needs_68 : decode cX9_needs 68 = .ok (.iload 5, 2) := by decide +kernel
theorem dX9_needs_70 : decode cX9_needs 70 = .ok (.istore 4, 2) := by decide +kernel
theorem dX9_needs_72 : decode cX9_needs 72 = .ok (.goto 8, 3) := by decide +kernel
theorem dX9_needs_75 : decode cX9_needs 75 = .ok (.iload 5, 2) := by decide +kernel
theorem dX9_needs_77 : decode cX9_needs 77 = .ok (.iconst 1, 1) := by decide +kernel
theorem dX9_needs_78 : decode cX9_needs 78 = .ok (.iadd, 1) := by decide +kernel
theorem dX9_needs_79 : decode cX9_needs 79 = .ok (.istore_n 3, 1) := by decide +kernel
theorem dX9_needs_80 : decode cX9_needs 80 = .ok (.goto (-37), 3) := by decide +kernel
theorem dX9_needs_83 : decode cX9_needs 83 = .ok (.iload_n 3, 1) := by decide +kernel
theorem dX9_needs_84 : decode cX9_needs 84 = .ok (.ireturn, 1) := by decide +kernel
theorem dX9_snap_0 : decode cX9_snap 0 = .ok (.aload_n 0, 1) := by decide +kernel
theorem dX9_snap_1 : decode cX9_snap 1 = .ok (.getfield 171, 3) := by decide +kernel
theorem dX9_snap_4 : decode cX9_snap 4 = .ok (.bipush 10, 2) := by decide +kernel
theorem dX9_snap_6 : decode cX9_snap 6 = .ok (.if_icmp .ne 44, 3) := by decide +kernel
theorem dX9_snap_9 : decode cX9_snap 9 = .ok (.iconst 0, 1) := by decide +kernel
theorem dX9_snap_10 : decode cX9_snap 10 = .ok (.istore_n 1, 1) := by decide +kernel
theorem dX9_snap_11 : decode cX9_snap 11 = .ok (.iload_n 1, 1) := by decide +kernel
theorem dX9_snap_12 : decode cX9_snap 12 = .ok (.sipush 12555, 3) := by decide +kernel
theorem dX9_snap_15 : decode cX9_snap 15 = .ok (.if_icmp .ge 25, 3) := by decide +kernel
theorem dX9_snap_18 : decode cX9_snap 18 = .ok (.aload_n 0, 1) := by decide +kernel
theorem dX9_snap_19 : decode cX9_snap 19 = .ok (.getfield 80, 3) := by decide +kernel
theorem dX9_snap_22 : decode cX9_snap 22 = .ok (.iload_n 1, 1) := by decide +kernel
theorem dX9_snap_23 : decode cX9_snap 23 = .ok (.aload_n 0, 1) := by decide +kernel
theorem dX9_snap_24 : decode cX9_snap 24 = .ok (.getfield 80, 3) := by decide +kernel
theorem dX9_snap_27 : decode cX9_snap 27 = .ok (.iload_n 1, 1) := by decide +kernel
theorem dX9_snap_28 : decode cX9_snap 28 = .ok (.sipush 1395, 3) := by decide +kernel
theorem dX9_snap_31 : decode cX9_snap 31 = .ok (.iadd, 1) := by decide +kernel
theorem dX9_snap_32 : decode cX9_snap 32 = .ok (.iaload, 1) := by decide +kernel
theorem dX9_snap_33 : decode cX9_snap 33 = .ok (.iastore, 1) := by decide +kernel
theorem dX9_snap_34 : decode cX9_snap 34 = .ok (.iinc 1 1, 3) := by decide +kernel
theorem dX9_snap_37 : decode cX9_snap 37 = .ok (.goto (-26), 3) := by decide +kernel
theorem dX9_snap_40 : decode cX9_snap 40 = .ok (.aload_n 0, 1) := by decide +kernel
theorem dX9_snap_41 : decode cX9_snap 41 = .ok (.dup, 1) := by decide +kernel
theorem dX9_snap_42 : decode cX9_snap 42 = .ok (.getfield 171, 3) := by decide +kernel
theorem dX9_snap_45 : decode cX9_snap 45 = .ok (.iconst 1, 1) := by decide +kernel
theorem dX9_snap_46 : decode cX9_snap 46 = .ok (.isub, 1) := by decide +kernel
theorem dX9_snap_47 : decode cX9_snap 47 = .ok (.putfield 171, 3) := by decide +kernel
theorem dX9_snap_50 : decode cX9_snap 50 = .ok (.iconst 0, 1) := by decide +kernel
theorem dX9_snap_51 : decode cX9_snap 51 = .ok (.istore_n 1, 1) := by decide +kernel
theorem dX9_snap_52 : decode cX9_snap 52 = .ok (.iload_n 1, 1) := by decide +kernel
theorem dX9_snap_53 : decode cX9_snap 53 = .ok (.sipush 1395, 3) := by decide +kernel
theorem dX9_snap_56 : decode cX9_snap 56 = .ok (.if_icmp .ge 30, 3) := by decide +kernel
theorem dX9_snap_59 : decode cX9_snap 59 = .ok (.aload_n 0, 1) := by decide +kernel
theorem dX9_snap_60 : decode cX9_snap 60 = .ok (.getfield 80, 3) := by decide +kernel
theorem dX9_snap_63 : decode cX9_snap 63 = .ok (.sipush 1395, 3) := by decide +kernel
theorem dX9_snap_66 : decode cX9_snap 66 = .ok (.aload_n 0, 1) := by decide +kernel
theorem dX9_snap_67 : decode cX9_snap 67 = .ok (.getfield 171, 3) := by decide +kernel
theorem dX9_snap_70 : decode cX9_snap 70 = .ok (.imul, 1) := by decide +kernel
theorem dX9_snap_71 : decode cX9_snap 71 = .ok (.iload_n 1, 1) := by decide +kernel
theorem dX9_snap_72 : decode cX9_snap 72 = .ok (.iadd, 1) := by decide +kernel
theorem dX9_snap_73 : decode cX9_snap 73 = .ok (.aload_n 0, 1) := by decide +kernel
theorem dX9_snap_74 : decode cX9_snap 74 = .ok (.getfield 74, 3) := by decide +kernel
theorem dX9_snap_77 : decode cX9_snap 77 = .ok (.iload_n 1, 1) := by decide +kernel
theorem dX9_snap_78 : decode cX9_snap 78 = .ok (.iaload, 1) := by decide +kernel
theorem dX9_snap_79 : decode cX9_snap 79 = .ok (.iastore, 1) := by decide +kernel
theorem dX9_snap_80 : decode cX9_snap 80 = .ok (.iinc 1 1, 3) := by decide +kernel
theorem dX9_snap_83 : decode cX9_snap 83 = .ok (.goto (-31), 3) := by decide +kernel
theorem dX9_snap_86 : decode cX9_snap 86 = .ok (.aload_n 0, 1) := by decide +kernel
theorem dX9_snap_87 : decode cX9_snap 87 = .ok (.dup, 1) := by decide +kernel
theorem dX9_snap_88 : decode cX9_snap 88 = .ok (.getfield 171, 3) := by decide +kernel
theorem dX9_snap_91 : decode cX9_snap 91 = .ok (.iconst 1, 1) := by decide +kernel
theorem dX9_snap_92 : decode cX9_snap 92 = .ok (.iadd, 1) := by decide +kernel
theorem dX9_snap_93 : decode cX9_snap 93 = .ok (.putfield 171, 3) := by decide +kernel
theorem dX9_snap_96 : decode cX9_snap 96 = .ok (.return_, 1) := by decide +kernel
theorem dX9_enact_0 : decode cX9_enact 0 = .ok (.aload_n 0, 1) := by decide +kernel
theorem dX9_enact_1 : decode cX9_enact 1 = .ok (.iconst 0, 1) := by decide +kernel
theorem dX9_enact_2 : decode cX9_enact 2 = .ok (.putfield 1, 3) := by decide +kernel
theorem dX9_enact_5 : decode cX9_enact 5 = .ok (.aload_n 0, 1) := by decide +kernel
theorem dX9_enact_6 : decode cX9_enact 6 = .ok (.iload_n 1, 1) := by decide +kernel
theorem dX9_enact_7 : decode cX9_enact 7 = .ok (.iload_n 2, 1) := by decide +kernel
theorem dX9_enact_8 : decode cX9_enact 8 = .ok (.iload_n 3, 1) := by decide +kernel
theorem dX9_enact_9 : decode cX9_enact 9 = .ok (.invokevirtual 260, 3) := by decide +kernel
theorem dX9_enact_12 : decode cX9_enact 12 = .ok (.ifCond .ne 5, 3) := by decide +kernel
theorem dX9_enact_15 : decode cX9_enact 15 = .ok (.iconst (-1), 1) := by decide +kernel
theorem dX9_enact_16 : decode cX9_enact 16 = .ok (.ireturn, 1) := by decide +kernel
theorem dX9_enact_17 : decode cX9_enact 17 = .ok (.aload_n 0, 1) := by decide +kernel
theorem dX9_enact_18 : decode cX9_enact 18 = .ok (.invokevirtual 266, 3) := by decide +kernel
theorem dX9_enact_21 : decode cX9_enact 21 = .ok (.aload_n 0, 1) := by decide +kernel
theorem dX9_enact_22 : decode cX9_enact 22 = .ok (.iload_n 1, 1) := by decide +kernel
theorem dX9_enact_23 : decode cX9_enact 23 = .ok (.iload_n 2, 1) := by decide +kernel
theorem dX9_enact_24 : decode cX9_enact 24 = .ok (.invokevirtual 207, 3) := by decide +kernel
theorem dX9_enact_27 : decode cX9_enact 27 = .ok (.istore 4, 2) := by decide +kernel
theorem dX9_enact_29 : decode cX9_enact 29 = .ok (.aload_n 0, 1) := by decide +kernel
theorem dX9_enact_30 : decode cX9_enact 30 = .ok (.getfield 74, 3) := by decide +kernel
theorem dX9_enact_33 : decode cX9_enact 33 = .ok (.iload_n 1, 1) := by decide +kernel
theorem dX9_enact_34 : decode cX9_enact 34 = .ok (.iload_n 2, 1) := by decide +kernel
theorem dX9_enact_35 : decode cX9_enact 35 = .ok (.iload_n 3, 1) := by decide +kernel
theorem dX9_enact_36 : decode cX9_enact 36 = .ok (.invokestatic 139, 3) := by decide +kernel
theorem dX9_enact_39 : decode cX9_enact 39 = .ok (.iload 4, 2) := by decide +kernel
theorem dX9_enact_41 : decode cX9_enact 41 = .ok (.ireturn, 1) := by decide +kernel
theorem dX9_expect_0 : decode cX9_expect 0 = .ok (.aload_n 0, 1) := by decide +kernel
theorem dX9_expect_1 : decode cX9_expect 1 = .ok (.iconst 0, 1) := by decide +kernel
theorem dX9_expect_2 : decode cX9_expect 2 = .ok (.putfield 1, 3) := by decide +kernel
theorem dX9_expect_5 : decode cX9_expect 5 = .ok (.aload_n 0, 1) := by decide +kernel
theorem dX9_expect_6 : decode cX9_expect 6 = .ok (.iload_n 1, 1) := by decide +kernel
theorem dX9_expect_7 : decode cX9_expect 7 = .ok (.invokevirtual 244, 3) := by decide +kernel
theorem dX9_expect_10 : decode cX9_expect 10 = .ok (.ifCond .eq 28, 3) := by decide +kernel
theorem dX9_expect_13 : decode cX9_expect 13 = .ok (.iload_n 2, 1) := by decide +kernel
theorem dX9_expect_14 : decode cX9_expect 14 = .ok (.aload_n 0, 1) := by decide +kernel
theorem dX9_expect_15 : decode cX9_expect 15 = .ok (.getfield 74, 3) := by decide +kernel
theorem dX9_expect_18 : decode cX9_expect 18 = .ok (.iconst 0, 1) := by decide +kernel
theorem dX9_expect_19 : decode cX9_expect 19 = .ok (.iaload, 1) := by decide +kernel
theorem dX9_expect_20 : decode cX9_expect 20 = .ok (.bipush 39, 2) := by decide +kernel
theorem dX9_expect_22 : decode cX9_expect 22 = .ok (.invokestatic 113, 3) := by decide +kernel
theorem dX9_expect_25 : decode cX9_expect 25 = .ok (.ifCond .eq 13, 3) := by decide +kernel
theorem dX9_expect_28 : decode cX9_expect 28 = .ok (.iload_n 3, 1) := by decide +kernel
theorem dX9_expect_29 : decode cX9_expect 29 = .ok (.iconst 0, 1) := by decide +kernel
theorem dX9_expect_30 : decode cX9_expect 30 = .ok (.ldc 146, 2) := by decide +kernel
theorem dX9_expect_32 : decode cX9_expect 32 = .ok (.invokestatic 113, 3) := by decide +kernel
theorem dX9_expect_35 : decode cX9_expect 35 = .ok (.ifCond .ne 5, 3) := by decide +kernel
theorem dX9_expect_38 : decode cX9_expect 38 = .ok (.iconst (-1), 1) := by decide +kernel
theorem dX9_expect_39 : decode cX9_expect 39 = .ok (.ireturn, 1) := by decide +kernel
theorem dX9_expect_40 : decode cX9_expect 40 = .ok (.aload_n 0, 1) := by decide +kernel
theorem dX9_expect_41 : decode cX9_expect 41 = .ok (.invokevirtual 266, 3) := by decide +kernel
theorem dX9_expect_44 : decode cX9_expect 44 = .ok (.aload_n 0, 1) := by decide +kernel
theorem dX9_expect_45 : decode cX9_expect 45 = .ok (.iload_n 1, 1) := by decide +kernel
theorem dX9_expect_46 : decode cX9_expect 46 = .ok (.iload_n 2, 1) := by decide +kernel
theorem dX9_expect_47 : decode cX9_expect 47 = .ok (.invokevirtual 196, 3) := by decide +kernel
theorem dX9_expect_50 : decode cX9_expect 50 = .ok (.istore 4, 2) := by decide +kernel
theorem dX9_expect_52 : decode cX9_expect 52 = .ok (.aload_n 0, 1) := by decide +kernel
theorem dX9_expect_53 : decode cX9_expect 53 = .ok (.getfield 74, 3) := by decide +kernel
theorem dX9_expect_56 : decode cX9_expect 56 = .ok (.bipush 125, 2) := by decide +kernel
theorem dX9_expect_58 : decode cX9_expect 58 = .ok (.bipush 40, 2) := by decide +kernel
theorem dX9_expect_60 : decode cX9_expect 60 = .ok (.iload_n 1, 1) := by decide +kernel
theorem dX9_expect_61 : decode cX9_expect 61 = .ok (.imul, 1) := by decide +kernel
theorem dX9_expect_62 : decode cX9_expect 62 = .ok (.iadd, 1) := by decide +kernel
theorem dX9_expect_63 : decode cX9_expect 63 = .ok (.iload_n 2, 1) := by decide +kernel
theorem dX9_expect_64 : decode cX9_expect 64 = .ok (.iadd, 1) := by decide +kernel
theorem dX9_expect_65 : decode cX9_expect 65 = .ok (.iload_n 3, 1) := by decide +kernel
theorem dX9_expect_66 : decode cX9_expect 66 = .ok (.iastore, 1) := by decide +kernel
theorem dX9_expect_67 : decode cX9_expect 67 = .ok (.iload 4, 2) := by decide +kernel
theorem dX9_expect_69 : decode cX9_expect 69 = .ok (.ireturn, 1) := by decide +kernel
theorem dX9_arises_0 : decode cX9_arises 0 = .ok (.aload_n 0, 1) := by decide +kernel
theorem dX9_arises_1 : decode cX9_arises 1 = .ok (.iconst 0, 1) := by decide +kernel
theorem dX9_arises_2 : decode cX9_arises 2 = .ok (.putfield 1, 3) := by decide +kernel
theorem dX9_arises_5 : decode cX9_arises 5 = .ok (.aload_n 0, 1) := by decide +kernel
theorem dX9_arises_6 : decode cX9_arises 6 = .ok (.iload_n 1, 1) := by decide +kernel
theorem dX9_arises_7 : decode cX9_arises 7 = .ok (.invokevirtual 244, 3) := by decide +kernel
theorem dX9_arises_10 : decode cX9_arises 10 = .ok (.ifCond .eq 34, 3) := by decide +kernel
theorem dX9_arises_13 : decode cX9_arises 13 = .ok (.iload_n 3, 1) := by decide +kernel
theorem dX9_arises_14 : decode cX9_arises 14 = .ok (.iconst 1, 1) := by decide +kernel
theorem dX9_arises_15 : decode cX9_arises 15 = .ok (.ldc 146, 2) := by decide +kernel
theorem dX9_arises_17 : decode cX9_arises 17 = .ok (.invokestatic 113, 3) := by decide +kernel
theorem dX9_arises_20 : decode cX9_arises 20 = .ok (.ifCond .eq 24, 3) := by decide +kernel
theorem dX9_arises_23 : decode cX9_arises 23 = .ok (.aload_n 0, 1) := by decide +kernel
theorem dX9_arises_24 : decode cX9_arises 24 = .ok (.iload 4, 2) := by decide +kernel
theorem dX9_arises_26 : decode cX9_arises 26 = .ok (.invokevirtual 250, 3) := by decide +kernel
theorem dX9_arises_29 : decode cX9_arises 29 = .ok (.ifCond .eq 15, 3) := by decide +kernel
theorem dX9_arises_32 : decode cX9_arises 32 = .ok (.iload 5, 2) := by decide +kernel
theorem dX9_arises_34 : decode cX9_arises 34 = .ok (.iload 4, 2) := by decide +kernel
theorem dX9_arises_36 : decode cX9_arises 36 = .ok (.bipush 39, 2) := by decide +kernel
theorem dX9_arises_38 : decode cX9_arises 38 = .ok (.invokestatic 113, 3) := by decide +kernel
theorem dX9_arises_41 : decode cX9_arises 41 = .ok (.ifCond .ne 5, 3) := by decide +kernel
theorem dX9_arises_44 : decode cX9_arises 44 = .ok (.iconst (-1), 1) := by decide +kernel
theorem dX9_arises_45 : decode cX9_arises 45 = .ok (.ireturn, 1) := by decide +kernel
theorem dX9_arises_46 : decode cX9_arises 46 = .ok (.aload_n 0, 1) := by decide +kernel
theorem dX9_arises_47 : decode cX9_arises 47 = .ok (.getfield 74, 3) := by decide +kernel
theorem dX9_arises_50 : decode cX9_arises 50 = .ok (.iconst 3, 1) := by decide +kernel
theorem dX9_arises_51 : decode cX9_arises 51 = .ok (.iaload, 1) := by decide +kernel
theorem dX9_arises_52 : decode cX9_arises 52 = .ok (.bipush 30, 2) := by decide +kernel
theorem dX9_arises_54 : decode cX9_arises 54 = .ok (.if_icmp .ne 6, 3) := by decide +kernel
theorem dX9_arises_57 : decode cX9_arises 57 = .ok (.bipush (-2), 2) := by decide +kernel
theorem dX9_arises_59 : decode cX9_arises 59 = .ok (.ireturn, 1) := by decide +kernel
theorem dX9_arises_60 : decode cX9_arises 60 = .ok (.aload_n 0, 1) := by decide +kernel
theorem dX9_arises_61 : decode cX9_arises 61 = .ok (.invokevirtual 266, 3) := by decide +kernel
theorem dX9_arises_64 : decode cX9_arises 64 = .ok (.sipush 245, 3) := by decide +kernel
theorem dX9_arises_67 : decode cX9_arises 67 = .ok (.iconst 5, 1) := by decide +kernel
theorem dX9_arises_68 : decode cX9_arises 68 = .ok (.aload_n 0, 1) := by decide +kernel
theorem dX9_arises_69 : decode cX9_arises 69 = .ok (.getfield 74, 3) := by decide +kernel
theorem dX9_arises_72 : decode cX9_arises 72 = .ok (.iconst 3, 1) := by decide +kernel
theorem dX9_arises_73 : decode cX9_arises 73 = .ok (.iaload, 1) := by decide +kernel
theorem dX9_arises_74 : decode cX9_arises 74 = .ok (.imul, 1) := by decide +kernel
theorem dX9_arises_75 : decode cX9_arises 75 = .ok (.iadd, 1) := by decide +kernel
theorem dX9_arises_76 : decode cX9_arises 76 = .ok (.istore 6, 2) := by decide +kernel
theorem dX9_arises_78 : decode cX9_arises 78 = .ok (.aload_n 0, 1) := by decide +kernel
theorem dX9_arises_79 : decode cX9_arises 79 = .ok (.getfield 74, 3) := by decide +kernel
theorem dX9_arises_82 : decode cX9_arises 82 = .ok (.iload 6, 2) := by decide +kernel
theorem dX9_arises_84 : decode cX9_arises 84 = .ok (.iconst 0, 1) := by decide +kernel
theorem dX9_arises_85 : decode cX9_arises 85 = .ok (.iadd, 1) := by decide +kernel
theorem dX9_arises_86 : decode cX9_arises 86 = .ok (.iload_n 1, 1) := by decide +kernel
theorem dX9_arises_87 : decode cX9_arises 87 = .ok (.iastore, 1) := by decide +kernel
theorem dX9_arises_88 : decode cX9_arises 88 = .ok (.aload_n 0, 1) := by decide +kernel
theorem dX9_arises_89 : decode cX9_arises 89 = .ok (.getfield 74, 3) := by decide +kernel
theorem dX9_arises_92 : decode cX9_arises 92 = .ok (.iload 6, 2) := by decide +kernel
theorem dX9_arises_94 : decode cX9_arises 94 = .ok (.iconst 1, 1) := by decide +kernel
theorem dX9_arises_95 : decode cX9_arises 95 = .ok (.iadd, 1) := by decide +kernel
theorem dX9_arises_96 : decode cX9_arises 96 = .ok (.iload_n 2, 1) := by decide +kernel
theorem dX9_arises_97 : decode cX9_arises 97 = .ok (.ifCond .eq 7, 3) := by decide +kernel
theorem dX9_arises_100 : decode cX9_arises 100 = .ok (.iconst 1, 1) := by decide +kernel
theorem dX9_arises_101 : decode cX9_arises 101 = .ok (.goto 4, 3) := by decide +kernel
theorem dX9_arises_104 : decode cX9_arises 104 = .ok (.iconst 0, 1) := by decide +kernel
theorem dX9_arises_105 : decode cX9_arises 105 = .ok (.iastore, 1) := by decide +kernel
theorem dX9_arises_106 : decode cX9_arises 106 = .ok (.aload_n 0, 1) := by decide +kernel
theorem dX9_arises_107 : decode cX9_arises 107 = .ok (.getfield 74, 3) := by decide +kernel
theorem dX9_arises_110 : decode cX9_arises 110 = .ok (.iload 6, 2) := by decide +kernel
theorem dX9_arises_112 : decode cX9_arises 112 = .ok (.iconst 2, 1) := by decide +kernel
theorem dX9_arises_113 : decode cX9_arises 113 = .ok (.iadd, 1) := by decide +kernel
theorem dX9_arises_114 : decode cX9_arises 114 = .ok (.iload_n 3, 1) := by decide +kernel
theorem dX9_arises_115 : decode cX9_arises 115 = .ok (.iastore, 1) := by decide +kernel
theorem dX9_arises_116 : decode cX9_arises 116 = .ok (.aload_n 0, 1) := by decide +kernel
theorem dX9_arises_117 : decode cX9_arises 117 = .ok (.getfield 74, 3) := by decide +kernel
theorem dX9_arises_120 : decode cX9_arises 120 = .ok (.iload 6, 2) := by decide +kernel
theorem dX9_arises_122 : decode cX9_arises 122 = .ok (.iconst 3, 1) := by decide +kernel
theorem dX9_arises_123 : decode cX9_arises 123 = .ok (.iadd, 1) := by decide +kernel
theorem dX9_arises_124 : decode cX9_arises 124 = .ok (.iload 4, 2) := by decide +kernel
theorem dX9_arises_126 : decode cX9_arises 126 = .ok (.iastore, 1) := by decide +kernel
theorem dX9_arises_127 : decode cX9_arises 127 = .ok (.aload_n 0, 1) := by decide +kernel
theorem dX9_arises_128 : decode cX9_arises 128 = .ok (.getfield 74, 3) := by decide +kernel
theorem dX9_arises_131 : decode cX9_arises 131 = .ok (.iload 6, 2) := by decide +kernel
theorem dX9_arises_133 : decode cX9_arises 133 = .ok (.iconst 4, 1) := by decide +kernel
theorem dX9_arises_134 : decode cX9_arises 134 = .ok (.iadd, 1) := by decide +kernel
theorem dX9_arises_135 : decode cX9_arises 135 = .ok (.iload 5, 2) := by decide +kernel
theorem dX9_arises_137 : decode cX9_arises 137 = .ok (.iastore, 1) := by decide +kernel
theorem dX9_arises_138 : decode cX9_arises 138 = .ok (.aload_n 0, 1) := by decide +kernel
theorem dX9_arises_139 : decode cX9_arises 139 = .ok (.getfield 74, 3) := by decide +kernel
theorem dX9_arises_142 : decode cX9_arises 142 = .ok (.iconst 3, 1) := by decide +kernel
theorem dX9_arises_143 : decode cX9_arises 143 = .ok (.dup2, 1) := by decide +kernel
theorem dX9_arises_144 : decode cX9_arises 144 = .ok (.iaload, 1) := by decide +kernel
theorem dX9_arises_145 : decode cX9_arises 145 = .ok (.iconst 1, 1) := by decide +kernel
theorem dX9_arises_146 : decode cX9_arises 146 = .ok (.iadd, 1) := by decide +kernel
theorem dX9_arises_147 : decode cX9_arises 147 = .ok (.iastore, 1) := by decide +kernel
theorem dX9_arises_148 : decode cX9_arises 148 = .ok (.aload_n 0, 1) := by decide +kernel
theorem dX9_arises_149 : decode cX9_arises 149 = .ok (.getfield 74, 3) := by decide +kernel
theorem dX9_arises_152 : decode cX9_arises 152 = .ok (.iconst 3, 1) := by decide +kernel
theorem dX9_arises_153 : decode cX9_arises 153 = .ok (.iaload, 1) := by decide +kernel
theorem dX9_arises_154 : decode cX9_arises 154 = .ok (.iconst 1, 1) := by decide +kernel
theorem dX9_arises_155 : decode cX9_arises 155 = .ok (.isub, 1) := by decide +kernel
theorem dX9_arises_156 : decode cX9_arises 156 = .ok (.ireturn, 1) := by decide +kernel
theorem dX9_settle_0 : decode cX9_settle 0 = .ok (.aload_n 0, 1) := by decide +kernel
theorem dX9_settle_1 : decode cX9_settle 1 = .ok (.iconst 0, 1) := by decide +kernel
theorem dX9_settle_2 : decode cX9_settle 2 = .ok (.putfield 1, 3) := by decide +kernel
theorem dX9_settle_5 : decode cX9_settle 5 = .ok (.aload_n 0, 1) := by decide +kernel
theorem dX9_settle_6 : decode cX9_settle 6 = .ok (.iload_n 1, 1) := by decide +kernel
theorem dX9_settle_7 : decode cX9_settle 7 = .ok (.invokevirtual 235, 3) := by decide +kernel
theorem dX9_settle_10 : decode cX9_settle 10 = .ok (.ifCond .eq 22, 3) := by decide +kernel
theorem dX9_settle_13 : decode cX9_settle 13 = .ok (.aload_n 0, 1) := by decide +kernel
theorem dX9_settle_14 : decode cX9_settle 14 = .ok (.iload_n 1, 1) := by decide +kernel
theorem dX9_settle_15 : decode cX9_settle 15 = .ok (.invokevirtual 216, 3) := by decide +kernel
theorem dX9_settle_18 : decode cX9_settle 18 = .ok (.ifCond .eq 14, 3) := by decide +kernel
theorem dX9_settle_21 : decode cX9_settle 21 = .ok (.aload_n 0, 1) := by decide +kernel
