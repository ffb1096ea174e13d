theorem dX6_reads_107 : decode cX6_reads 107 = .ok (.putfield 36, 3) := by decide +kernel
theorem dX6_reads_110 : decode cX6_reads 110 = .ok (.iinc 1 1, 3) := by decide +kernel
theorem dX6_reads_113 : decode cX6_reads 113 = .ok (.goto (-89), 3) := by decide +kernel
theorem dX6_reads_116 : decode cX6_reads 116 = .ok (.aload_n 0, 1) := by decide +kernel
theorem dX6_reads_117 : decode cX6_reads 117 = .ok (.iconst 1, 1) := by decide +kernel
theorem dX6_reads_118 : decode cX6_reads 118 = .ok (.invokevirtual 52, 3) := by decide +kernel
theorem dX6_reads_121 : decode cX6_reads 121 = .ok (.ireturn, 1) := by decide +kernel
theorem dX6_refuse_0 : decode cX6_refuse 0 = .ok (.aload_n 0, 1) := by decide +kernel
theorem dX6_refuse_1 : decode cX6_refuse 1 = .ok (.iload_n 1, 1) := by decide +kernel
theorem dX6_refuse_2 : decode cX6_refuse 2 = .ok (.putfield 39, 3) := by decide +kernel
theorem dX6_refuse_5 : decode cX6_refuse 5 = .ok (.iconst 0, 1) := by decide +kernel
theorem dX6_refuse_6 : decode cX6_refuse 6 = .ok (.ireturn, 1) := by decide +kernel
theorem dX6_lineThatComes_0 : decode cX6_lineThatComes 0 = .ok (.aload_n 0, 1) := by decide +kernel
theorem dX6_lineThatComes_1 : decode cX6_lineThatComes 1 = .ok (.getfield 45, 3) := by decide +kernel
theorem dX6_lineThatComes_4 : decode cX6_lineThatComes 4 = .ok (.iconst 2, 1) := by decide +kernel
theorem dX6_lineThatComes_5 : decode cX6_lineThatComes 5 = .ok (.if_icmp .eq 5, 3) := by decide +kernel
theorem dX6_lineThatComes_8 : decode cX6_lineThatComes 8 = .ok (.aconst_null, 1) := by decide +kernel
theorem dX6_lineThatComes_9 : decode cX6_lineThatComes 9 = .ok (.areturn, 1) := by decide +kernel
theorem dX6_lineThatComes_10 : decode cX6_lineThatComes 10 = .ok (.iconst 0, 1) := by decide +kernel
theorem dX6_lineThatComes_11 : decode cX6_lineThatComes 11 = .ok (.istore_n 1, 1) := by decide +kernel
theorem dX6_lineThatComes_12 : decode cX6_lineThatComes 12 = .ok (.iload_n 1, 1) := by decide +kernel
theorem dX6_lineThatComes_13 : decode cX6_lineThatComes 13 = .ok (.getstatic 74, 3) := by decide +kernel
theorem dX6_lineThatComes_16 : decode cX6_lineThatComes 16 = .ok (.arraylength, 1) := by decide +kernel
theorem dX6_lineThatComes_17 : decode cX6_lineThatComes 17 = .ok (.if_icmp .ge 46, 3) := by decide +kernel
theorem dX6_lineThatComes_20 : decode cX6_lineThatComes 20 = .ok (.aload_n 0, 1) := by decide +kernel
theorem dX6_lineThatComes_21 : decode cX6_lineThatComes 21 = .ok (.getstatic 74, 3) := by decide +kernel
theorem dX6_lineThatComes_24 : decode cX6_lineThatComes 24 = .ok (.iload_n 1, 1) := by decide +kernel
theorem dX6_lineThatComes_25 : decode cX6_lineThatComes 25 = .ok (.aaload, 1) := by decide +kernel
theorem dX6_lineThatComes_26 : decode cX6_lineThatComes 26 = .ok (.getfield 78, 3) := by decide +kernel
theorem dX6_lineThatComes_29 : decode cX6_lineThatComes 29 = .ok (.invokevirtual 81, 3) := by decide +kernel
theorem dX6_lineThatComes_32 : decode cX6_lineThatComes 32 = .ok (.ifCond .eq 25, 3) := by decide +kernel
theorem dX6_lineThatComes_35 : decode cX6_lineThatComes 35 = .ok (.aload_n 0, 1) := by decide +kernel
theorem dX6_lineThatComes_36 : decode cX6_lineThatComes 36 = .ok (.getstatic 74, 3) := by decide +kernel
theorem dX6_lineThatComes_39 : decode cX6_lineThatComes 39 = .ok (.iload_n 1, 1) := by decide +kernel
theorem dX6_lineThatComes_40 : decode cX6_lineThatComes 40 = .ok (.aaload, 1) := by decide +kernel
theorem dX6_lineThatComes_41 : decode cX6_lineThatComes 41 = .ok (.invokevirtual 84, 3) := by decide +kernel
theorem dX6_lineThatComes_44 : decode cX6_lineThatComes 44 = .ok (.ifCond .eq 11, 3) := by decide +kernel
theorem dX6_lineThatComes_47 : decode cX6_lineThatComes 47 = .ok (.getstatic 74, 3) := by decide +kernel
theorem dX6_lineThatComes_50 : decode cX6_lineThatComes 50 = .ok (.iload_n 1, 1) := by decide +kernel
theorem dX6_lineThatComes_51 : decode cX6_lineThatComes 51 = .ok (.aaload, 1) := by decide +kernel
theorem dX6_lineThatComes_52 : decode cX6_lineThatComes 52 = .ok (.goto 4, 3) := by decide +kernel
theorem dX6_lineThatComes_55 : decode cX6_lineThatComes 55 = .ok (.aconst_null, 1) := by decide +kernel
theorem dX6_lineThatComes_56 : decode cX6_lineThatComes 56 = .ok (.areturn, 1) := by decide +kernel
theorem dX6_lineThatComes_57 : decode cX6_lineThatComes 57 = .ok (.iinc 1 1, 3) := by decide +kernel
theorem dX6_lineThatComes_60 : decode cX6_lineThatComes 60 = .ok (.goto (-48), 3) := by decide +kernel
theorem dX6_lineThatComes_63 : decode cX6_lineThatComes 63 = .ok (.aconst_null, 1) := by decide +kernel
theorem dX6_lineThatComes_64 : decode cX6_lineThatComes 64 = .ok (.areturn, 1) := by decide +kernel
theorem dX6_isWord_0 : decode cX6_isWord 0 = .ok (.aload_n 1, 1) := by decide +kernel
theorem dX6_isWord_1 : decode cX6_isWord 1 = .ok (.invokevirtual 87, 3) := by decide +kernel
theorem dX6_isWord_4 : decode cX6_isWord 4 = .ok (.aload_n 0, 1) := by decide +kernel
theorem dX6_isWord_5 : decode cX6_isWord 5 = .ok (.getfield 32, 3) := by decide +kernel
theorem dX6_isWord_8 : decode cX6_isWord 8 = .ok (.aload_n 0, 1) := by decide +kernel
theorem dX6_isWord_9 : decode cX6_isWord 9 = .ok (.getfield 93, 3) := by decide +kernel
theorem dX6_isWord_12 : decode cX6_isWord 12 = .ok (.isub, 1) := by decide +kernel
theorem dX6_isWord_13 : decode cX6_isWord 13 = .ok (.if_icmp .eq 5, 3) := by decide +kernel
theorem dX6_isWord_16 : decode cX6_isWord 16 = .ok (.iconst 0, 1) := by decide +kernel
theorem dX6_isWord_17 : decode cX6_isWord 17 = .ok (.ireturn, 1) := by decide +kernel
theorem dX6_isWord_18 : decode cX6_isWord 18 = .ok (.iconst 0, 1) := by decide +kernel
theorem dX6_isWord_19 : decode cX6_isWord 19 = .ok (.istore_n 2, 1) := by decide +kernel
theorem dX6_isWord_20 : decode cX6_isWord 20 = .ok (.iload_n 2, 1) := by decide +kernel
theorem dX6_isWord_21 : decode cX6_isWord 21 = .ok (.aload_n 1, 1) := by decide +kernel
theorem dX6_isWord_22 : decode cX6_isWord 22 = .ok (.invokevirtual 87, 3) := by decide +kernel
theorem dX6_isWord_25 : decode cX6_isWord 25 = .ok (.if_icmp .ge 32, 3) := by decide +kernel
theorem dX6_isWord_28 : decode cX6_isWord 28 = .ok (.aload_n 1, 1) := by decide +kernel
theorem dX6_isWord_29 : decode cX6_isWord 29 = .ok (.iload_n 2, 1) := by decide +kernel
theorem dX6_isWord_30 : decode cX6_isWord 30 = .ok (.invokevirtual 96, 3) := by decide +kernel
theorem dX6_isWord_33 : decode cX6_isWord 33 = .ok (.aload_n 0, 1) := by decide +kernel
theorem dX6_isWord_34 : decode cX6_isWord 34 = .ok (.getfield 12, 3) := by decide +kernel
theorem dX6_isWord_37 : decode cX6_isWord 37 = .ok (.aload_n 0, 1) := by decide +kernel
theorem dX6_isWord_38 : decode cX6_isWord 38 = .ok (.getfield 93, 3) := by decide +kernel
theorem dX6_isWord_41 : decode cX6_isWord 41 = .ok (.iload_n 2, 1) := by decide +kernel
theorem dX6_isWord_42 : decode cX6_isWord 42 = .ok (.iadd, 1) := by decide +kernel
theorem dX6_isWord_43 : decode cX6_isWord 43 = .ok (.invokevirtual 100, 3) := by decide +kernel
theorem dX6_isWord_46 : decode cX6_isWord 46 = .ok (.if_icmp .eq 5, 3) := by decide +kernel
theorem dX6_isWord_49 : decode cX6_isWord 49 = .ok (.iconst 0, 1) := by decide +kernel
theorem dX6_isWord_50 : decode cX6_isWord 50 = .ok (.ireturn, 1) := by decide +kernel
theorem dX6_isWord_51 : decode cX6_isWord 51 = .ok (.iinc 2 1, 3) := by decide +kernel
theorem dX6_isWord_54 : decode cX6_isWord 54 = .ok (.goto (-34), 3) := by decide +kernel
theorem dX6_isWord_57 : decode cX6_isWord 57 = .ok (.iconst 1, 1) := by decide +kernel
theorem dX6_isWord_58 : decode cX6_isWord 58 = .ok (.ireturn, 1) := by decide +kernel
theorem dX6_mayCome_0 : decode cX6_mayCome 0 = .ok (.aload_n 1, 1) := by decide +kernel
theorem dX6_mayCome_1 : decode cX6_mayCome 1 = .ok (.getstatic 104, 3) := by decide +kernel
theorem dX6_mayCome_4 : decode cX6_mayCome 4 = .ok (.if_acmp .ne 16, 3) := by decide +kernel
theorem dX6_mayCome_7 : decode cX6_mayCome 7 = .ok (.aload_n 0, 1) := by decide +kernel
theorem dX6_mayCome_8 : decode cX6_mayCome 8 = .ok (.getfield 36, 3) := by decide +kernel
theorem dX6_mayCome_11 : decode cX6_mayCome 11 = .ok (.ifCond .ne 7, 3) := by decide +kernel
theorem dX6_mayCome_14 : decode cX6_mayCome 14 = .ok (.iconst 1, 1) := by decide +kernel
theorem dX6_mayCome_15 : decode cX6_mayCome 15 = .ok (.goto 4, 3) := by decide +kernel
theorem dX6_mayCome_18 : decode cX6_mayCome 18 = .ok (.iconst 0, 1) := by decide +kernel
theorem dX6_mayCome_19 : decode cX6_mayCome 19 = .ok (.ireturn, 1) := by decide +kernel
theorem dX6_mayCome_20 : decode cX6_mayCome 20 = .ok (.aload_n 1, 1) := by decide +kernel
theorem dX6_mayCome_21 : decode cX6_mayCome 21 = .ok (.getstatic 108, 3) := by decide +kernel
theorem dX6_mayCome_24 : decode cX6_mayCome 24 = .ok (.if_acmp .ne 25, 3) := by decide +kernel
theorem dX6_mayCome_27 : decode cX6_mayCome 27 = .ok (.aload_n 0, 1) := by decide +kernel
theorem dX6_mayCome_28 : decode cX6_mayCome 28 = .ok (.getfield 36, 3) := by decide +kernel
theorem dX6_mayCome_31 : decode cX6_mayCome 31 = .ok (.iconst 1, 1) := by decide +kernel
theorem dX6_mayCome_32 : decode cX6_mayCome 32 = .ok (.aload_n 0, 1) := by decide +kernel
theorem dX6_mayCome_33 : decode cX6_mayCome 33 = .ok (.getfield 25, 3) := by decide +kernel
theorem dX6_mayCome_36 : decode cX6_mayCome 36 = .ok (.getfield 111, 3) := by decide +kernel
theorem dX6_mayCome_39 : decode cX6_mayCome 39 = .ok (.iadd, 1) := by decide +kernel
theorem dX6_mayCome_40 : decode cX6_mayCome 40 = .ok (.if_icmp .ne 7, 3) := by decide +kernel
theorem dX6_mayCome_43 : decode cX6_mayCome 43 = .ok (.iconst 1, 1) := by decide +kernel
theorem dX6_mayCome_44 : decode cX6_mayCome 44 = .ok (.goto 4, 3) := by decide +kernel
theorem dX6_mayCome_47 : decode cX6_mayCome 47 = .ok (.iconst 0, 1) := by decide +kernel
theorem dX6_mayCome_48 : decode cX6_mayCome 48 = .ok (.ireturn, 1) := by decide +kernel
theorem dX6_mayCome_49 : decode cX6_mayCome 49 = .ok (.aload_n 0, 1) := by decide +kernel
theorem dX6_mayCome_50 : decode cX6_mayCome 50 = .ok (.getfield 36, 3) := by decide +kernel
theorem dX6_mayCome_53 : decode cX6_mayCome 53 = .ok (.iconst 2, 1) := by decide +kernel
theorem dX6_mayCome_54 : decode cX6_mayCome 54 = .ok (.if_icmp .lt 7, 3) := by decide +kernel
theorem dX6_mayCome_57 : decode cX6_mayCome 57 = .ok (.iconst 1, 1) := by decide +kernel
theorem dX6_mayCome_58 : decode cX6_mayCome 58 = .ok (.goto 4, 3) := by decide +kernel
theorem dX6_mayCome_61 : decode cX6_mayCome 61 = .ok (.iconst 0, 1) := by decide +kernel
theorem dX6_mayCome_62 : decode cX6_mayCome 62 = .ok (.ireturn, 1) := by decide +kernel
theorem dX6_isOneMore_0 : decode cX6_isOneMore 0 = .ok (.getstatic 114, 3) := by decide +kernel
theorem dX6_isOneMore_3 : decode cX6_isOneMore 3 = .ok (.aload_n 1, 1) := by decide +kernel
theorem dX6_isOneMore_4 : decode cX6_isOneMore 4 = .ok (.invokevirtual 119, 3) := by decide +kernel
theorem dX6_isOneMore_7 : decode cX6_isOneMore 7 = .ok (.iaload, 1) := by decide +kernel
theorem dX6_isOneMore_8 : decode cX6_isOneMore 8 = .ok (.tableswitch 85 1 4 #[32, 49, 49, 67], 32) := by decide +kernel
theorem dX6_isOneMore_40 : decode cX6_isOneMore 40 = .ok (.aload_n 0, 1) := by decide +kernel
theorem dX6_isOneMore_41 : decode cX6_isOneMore 41 = .ok (.getfield 25, 3) := by decide +kernel
theorem dX6_isOneMore_44 : decode cX6_isOneMore 44 = .ok (.getfield 111, 3) := by decide +kernel
theorem dX6_isOneMore_47 : decode cX6_isOneMore 47 = .ok (.iconst 3, 1) := by decide +kernel
theorem dX6_isOneMore_48 : decode cX6_isOneMore 48 = .ok (.if_icmp .lt 7, 3) := by decide +kernel
theorem dX6_isOneMore_51 : decode cX6_isOneMore 51 = .ok (.iconst 1, 1) := by decide +kernel
theorem dX6_isOneMore_52 : decode cX6_isOneMore 52 = .ok (.goto 4, 3) := by decide +kernel
theorem dX6_isOneMore_55 : decode cX6_isOneMore 55 = .ok (.iconst 0, 1) := by decide +kernel
theorem dX6_isOneMore_56 : decode cX6_isOneMore 56 = .ok (.ireturn, 1) := by decide +kernel
theorem dX6_isOneMore_57 : decode cX6_isOneMore 57 = .ok (.aload_n 0, 1) := by decide +kernel
theorem dX6_isOneMore_58 : decode cX6_isOneMore 58 = .ok (.getfield 25, 3) := by decide +kernel
theorem dX6_isOneMore_61 : decode cX6_isOneMore 61 = .ok (.getfield 122, 3) := by decide +kernel
theorem dX6_isOneMore_64 : decode cX6_isOneMore 64 = .ok (.bipush 16, 2) := by decide +kernel
theorem dX6_isOneMore_66 : decode cX6_isOneMore 66 = .ok (.if_icmp .lt 7, 3) := by decide +kernel
theorem dX6_isOneMore_69 : decode cX6_isOneMore 69 = .ok (.iconst 1, 1) := by decide +kernel
theorem dX6_isOneMore_70 : decode cX6_isOneMore 70 = .ok (.goto 4, 3) := by decide +kernel
theorem dX6_isOneMore_73 : decode cX6_isOneMore 73 = .ok (.iconst 0, 1) := by decide +kernel
theorem dX6_isOneMore_74 : decode cX6_isOneMore 74 = .ok (.ireturn, 1) := by decide +kernel
theorem dX6_isOneMore_75 : decode cX6_isOneMore 75 = .ok (.aload_n 0, 1) := by decide +kernel
theorem dX6_isOneMore_76 : decode cX6_isOneMore 76 = .ok (.getfield 25, 3) := by decide +kernel
theorem dX6_isOneMore_79 : decode cX6_isOneMore 79 = .ok (.getfield 125, 3) := by decide +kernel
theorem dX6_isOneMore_82 : decode cX6_isOneMore 82 = .ok (.bipush 10, 2) := by decide +kernel
theorem dX6_isOneMore_84 : decode cX6_isOneMore 84 = .ok (.if_icmp .lt 7, 3) := by decide +kernel
theorem dX6_isOneMore_87 : decode cX6_isOneMore 87 = .ok (.iconst 1, 1) := by decide +kernel
theorem dX6_isOneMore_88 : decode cX6_isOneMore 88 = .ok (.goto 4, 3) := by decide +kernel
theorem dX6_isOneMore_91 : decode cX6_isOneMore 91 = .ok (.iconst 0, 1) := by decide +kernel
theorem dX6_isOneMore_92 : decode cX6_isOneMore 92 = .ok (.ireturn, 1) := by decide +kernel
theorem dX6_isOneMore_93 : decode cX6_isOneMore 93 = .ok (.iconst 0, 1) := by decide +kernel
theorem dX6_isOneMore_94 : decode cX6_isOneMore 94 = .ok (.ireturn, 1) := by decide +kernel
theorem dX6_readsNumbers_0 : decode cX6_readsNumbers 0 = .ok (.iconst 0, 1) := by decide +kernel
theorem dX6_readsNumbers_1 : decode cX6_readsNumbers 1 = .ok (.istore_n 2, 1) := by decide +kernel
theorem dX6_readsNumbers_2 : decode cX6_readsNumbers 2 = .ok (.iload_n 2, 1) := by decide +kernel
theorem dX6_readsNumbers_3 : decode cX6_readsNumbers 3 = .ok (.aload_n 1, 1) := by decide +kernel
theorem dX6_readsNumbers_4 : decode cX6_readsNumbers 4 = .ok (.invokevirtual 87, 3) := by decide +kernel
theorem dX6_readsNumbers_7 : decode cX6_readsNumbers 7 = .ok (.if_icmp .ge 84, 3) := by decide +kernel
theorem dX6_readsNumbers_10 : decode cX6_readsNumbers 10 = .ok (.iload_n 2, 1) := by decide +kernel
theorem dX6_readsNumbers_11 : decode cX6_readsNumbers 11 = .ok (.aload_n 0, 1) := by decide +kernel
theorem dX6_readsNumbers_12 : decode cX6_readsNumbers 12 = .ok (.getfield 18, 3) := by decide +kernel
theorem dX6_readsNumbers_15 : decode cX6_readsNumbers 15 = .ok (.arraylength, 1) := by decide +kernel
theorem dX6_readsNumbers_16 : decode cX6_readsNumbers 16 = .ok (.if_icmp .ge 75, 3) := by decide +kernel
theorem dX6_readsNumbers_19 : decode cX6_readsNumbers 19 = .ok (.aload_n 0, 1) := by decide +kernel
theorem dX6_readsNumbers_20 : decode cX6_readsNumbers 20 = .ok (.invokevirtual 42, 3) := by decide +kernel
theorem dX6_readsNumbers_23 : decode cX6_readsNumbers 23 = .ok (.aload_n 0, 1) := by decide +kernel
theorem dX6_readsNumbers_24 : decode cX6_readsNumbers 24 = .ok (.getfield 45, 3) := by decide +kernel
theorem dX6_readsNumbers_27 : decode cX6_readsNumbers 27 = .ok (.iconst 3, 1) := by decide +kernel
theorem dX6_readsNumbers_28 : decode cX6_readsNumbers 28 = .ok (.if_icmp .eq 9, 3) := by decide +kernel
theorem dX6_readsNumbers_31 : decode cX6_readsNumbers 31 = .ok (.aload_n 0, 1) := by decide +kernel
theorem dX6_readsNumbers_32 : decode cX6_readsNumbers 32 = .ok (.iconst 1, 1) := by decide +kernel
theorem dX6_readsNumbers_33 : decode cX6_readsNumbers 33 = .ok (.invokevirtual 52, 3) := by decide +kernel
theorem dX6_readsNumbers_36 : decode cX6_readsNumbers 36 = .ok (.ireturn, 1) := by decide +kernel
theorem dX6_readsNumbers_37 : decode cX6_readsNumbers 37 = .ok (.aload_n 0, 1) := by decide +kernel
theorem dX6_readsNumbers_38 : decode cX6_readsNumbers 38 = .ok (.getfield 128, 3) := by decide +kernel
theorem dX6_readsNumbers_41 : decode cX6_readsNumbers 41 = .ok (.aload_n 0, 1) := by decide +kernel
theorem dX6_readsNumbers_42 : decode cX6_readsNumbers 42 = .ok (.aload_n 1, 1) := by decide +kernel
theorem dX6_readsNumbers_43 : decode cX6_readsNumbers 43 = .ok (.iload_n 2, 1) := by decide +kernel
theorem dX6_readsNumbers_44 : decode cX6_readsNumbers 44 = .ok (.invokevirtual 96, 3) := by decide +kernel
theorem dX6_readsNumbers_47 : decode cX6_readsNumbers 47 = .ok (.invokevirtual 131, 3) := by decide +kernel
theorem dX6_readsNumbers_50 : decode cX6_readsNumbers 50 = .ok (.if_icmp .lt 19, 3) := by decide +kernel
theorem dX6_readsNumbers_53 : decode cX6_readsNumbers 53 = .ok (.aload_n 0, 1) := by decide +kernel
theorem dX6_readsNumbers_54 : decode cX6_readsNumbers 54 = .ok (.getfield 128, 3) := by decide +kernel
theorem dX6_readsNumbers_57 : decode cX6_readsNumbers 57 = .ok (.aload_n 0, 1) := by decide +kernel
theorem dX6_readsNumbers_58 : decode cX6_readsNumbers 58 = .ok (.aload_n 1, 1) := by decide +kernel
theorem dX6_readsNumbers_59 : decode cX6_readsNumbers 59 = .ok (.iload_n 2, 1) := by decide +kernel
theorem dX6_readsNumbers_60 : decode cX6_readsNumbers 60 = .ok (.invokevirtual 96, 3) := by decide +kernel
theorem dX6_readsNumbers_63 : decode cX6_readsNumbers 63 = .ok (.invokevirtual 135, 3) := by decide +kernel
theorem dX6_readsNumbers_66 : decode cX6_readsNumbers 66 = .ok (.if_icmp .le 9, 3) := by decide +kernel
theorem dX6_readsNumbers_69 : decode cX6_readsNumbers 69 = .ok (.aload_n 0, 1) := by decide +kernel
theorem dX6_readsNumbers_70 : decode cX6_readsNumbers 70 = .ok (.iconst 2, 1) := by decide +kernel
theorem dX6_readsNumbers_71 : decode cX6_readsNumbers 71 = .ok (.invokevirtual 52, 3) := by decide +kernel
theorem dX6_readsNumbers_74 : decode cX6_readsNumbers 74 = .ok (.ireturn, 1) := by decide +kernel
theorem dX6_readsNumbers_75 : decode cX6_readsNumbers 75 = .ok (.aload_n 0, 1) := by decide +kernel
theorem dX6_readsNumbers_76 : decode cX6_readsNumbers 76 = .ok (.getfield 18, 3) := by decide +kernel
theorem dX6_readsNumbers_79 : decode cX6_readsNumbers 79 = .ok (.iload_n 2, 1) := by decide +kernel
theorem dX6_readsNumbers_80 : decode cX6_readsNumbers 80 = .ok (.aload_n 0, 1) := by decide +kernel
theorem dX6_readsNumbers_81 : decode cX6_readsNumbers 81 = .ok (.getfield 128, 3) := by decide +kernel
theorem dX6_readsNumbers_84 : decode cX6_readsNumbers 84 = .ok (.iastore, 1) := by decide +kernel
theorem dX6_readsNumbers_85 : decode cX6_readsNumbers 85 = .ok (.iinc 2 1, 3) := by decide +kernel
theorem dX6_readsNumbers_88 : decode cX6_readsNumbers 88 = .ok (.goto (-86), 3) := by decide +kernel
theorem dX6_readsNumbers_91 : decode cX6_readsNumbers 91 = .ok (.aload_n 0, 1) := by decide +kernel
theorem dX6_readsNumbers_92 : decode cX6_readsNumbers 92 = .ok (.invokevirtual 42, 3) := by decide +kernel
theorem dX6_readsNumbers_95 : decode cX6_readsNumbers 95 = .ok (.aload_n 0, 1) := by decide +kernel
theorem dX6_readsNumbers_96 : decode cX6_readsNumbers 96 = .ok (.getfield 45, 3) := by decide +kernel
theorem dX6_readsNumbers_99 : decode cX6_readsNumbers 99 = .ok (.iconst 4, 1) := by decide +kernel
theorem dX6_readsNumbers_100 : decode cX6_readsNumbers 100 = .ok (.if_icmp .eq 11, 3) := by decide +kernel
theorem dX6_readsNumbers_103 : decode cX6_readsNumbers 103 = .ok (.aload_n 0, 1) := by decide +kernel
theorem dX6_readsNumbers_104 : decode cX6_readsNumbers 104 = .ok (.iconst 1, 1) := by decide +kernel
theorem dX6_readsNumbers_105 : decode cX6_readsNumbers 105 = .ok (.invokevirtual 52, 3) := by decide +kernel
theorem dX6_readsNumbers_108 : decode cX6_readsNumbers 108 = .ok (.ifCond .eq 7, 3) := by decide +kernel
theorem dX6_readsNumbers_111 : decode cX6_readsNumbers 111 = .ok (.iconst 1, 1) := by decide +kernel
theorem dX6_readsNumbers_112 : decode cX6_readsNumbers 112 = .ok (.goto 4, 3) := by decide +kernel
theorem dX6_readsNumbers_115 : decode cX6_readsNumbers 115 = .ok (.iconst 0, 1) := by decide +kernel
theorem dX6_readsNumbers_116 : decode cX6_readsNumbers 116 = .ok (.ireturn, 1) := by decide +kernel
theorem dX6_least_0 : decode cX6_least 0 = .ok (.iload_n 1, 1) := by decide +kernel
theorem dX6_least_1 : decode cX6_least 1 = .ok (.lookupswitch 44 #[(70, 35), (76, 37), (83, 35)], 35) := by decide +kernel
theorem dX6_least_36 : decode cX6_least 36 = .ok (.iconst 1, 1) := by decide +kernel
theorem dX6_least_37 : decode cX6_least 37 = .ok (.ireturn, 1) := by decide +kernel
theorem dX6_least_38 : decode cX6_least 38 = .ok (.aload_n 0, 1) := by decide +kernel
theorem dX6_least_39 : decode cX6_least 39 = .ok (.getfield 18, 3) := by decide +kernel
theorem dX6_least_42 : decode cX6_least 42 = .ok (.iconst 2, 1) := by decide +kernel
theorem dX6_least_43 : decode cX6_least 43 = .ok (.iaload, 1) := by decide +kernel
theorem dX6_least_44 : decode cX6_least 44 = .ok (.ireturn, 1) := by decide +kernel
theorem dX6_least_45 : decode cX6_least 45 = .ok (.iconst 0, 1) := by decide +kernel
theorem dX6_least_46 : decode cX6_least 46 = .ok (.ireturn, 1) := by decide +kernel
theorem dX6_most_0 : decode cX6_most 0 = .ok (.iload_n 1, 1) := by decide +kernel
theorem dX6_most_1 : decode cX6_most 1 = .ok (.tableswitch 59 78 83 #[39, 46, 59, 59, 42, 56], 39) := by decide +kernel
theorem dX6_most_40 : decode cX6_most 40 = .ok (.bipush 20, 2) := by decide +kernel
theorem dX6_most_42 : decode cX6_most 42 = .ok (.ireturn, 1) := by decide +kernel
theorem dX6_most_43 : decode cX6_most 43 = .ok (.sipush 900, 3) := by decide +kernel
theorem dX6_most_46 : decode cX6_most 46 = .ok (.ireturn, 1) := by decide +kernel
theorem dX6_most_47 : decode cX6_most 47 = .ok (.aload_n 0, 1) := by decide +kernel
theorem dX6_most_48 : decode cX6_most 48 = .ok (.getfield 25, 3) := by decide +kernel
theorem dX6_most_51 : decode cX6_most 51 = .ok (.getfield 111, 3) := by decide +kernel
theorem dX6_most_54 : decode cX6_most 54 = .ok (.iconst 1, 1) := by decide +kernel
theorem dX6_most_55 : decode cX6_most 55 = .ok (.isub, 1) := by decide +kernel
theorem dX6_most_56 : decode cX6_most 56 = .ok (.ireturn, 1) := by decide +kernel
theorem dX6_most_57 : decode cX6_most 57 = .ok (.ldc 138, 2) := by decide +kernel
theorem dX6_most_59 : decode cX6_most 59 = .ok (.ireturn, 1) := by decide +kernel
theorem dX6_most_60 : decode cX6_most 60 = .ok (.bipush 39, 2) := by decide +kernel
theorem dX6_most_62 : decode cX6_most 62 = .ok (.ireturn, 1) := by decide +kernel
theorem dX6_enter_0 : decode cX6_enter 0 = .ok (.getstatic 114, 3) := by decide +kernel
theorem dX6_enter_3 : decode cX6_enter 3 = .ok (.aload_n 1, 1) := by decide +kernel
theorem dX6_enter_4 : decode cX6_enter 4 = .ok (.invokevirtual 119, 3) := by decide +kernel
theorem dX6_enter_7 : decode cX6_enter 7 = .ok (.iaload, 1) := by decide +kernel
theorem dX6_enter_8 : decode cX6_enter 8 = .ok (.tableswitch 187 1 7 #[60, 187, 187, 158, 44, 97, 125], 44) := by decide +kernel
theorem dX6_enter_52 : decode cX6_enter 52 = .ok (.aload_n 0, 1) := by decide +kernel
theorem dX6_enter_53 : decode cX6_enter 53 = .ok (.getfield 25, 3) := by decide +kernel
theorem dX6_enter_56 : decode cX6_enter 56 = .ok (.aload_n 0, 1) := by decide +kernel
theorem dX6_enter_57 : decode cX6_enter 57 = .ok (.getfield 18, 3) := by decide +kernel
theorem dX6_enter_60 : decode cX6_enter 60 = .ok (.iconst 0, 1) := by decide +kernel
theorem dX6_enter_61 : decode cX6_enter 61 = .ok (.iaload, 1) := by decide +kernel
theorem dX6_enter_62 : decode cX6_enter 62 = .ok (.putfield 139, 3) := by decide +kernel
theorem dX6_enter_65 : decode cX6_enter 65 = .ok (.goto 174, 3) := by decide +kernel
theorem dX6_enter_68 : decode cX6_enter 68 = .ok (.aload_n 0, 1) := by decide +kernel
theorem dX6_enter_69 : decode cX6_enter 69 = .ok (.getfield 25, 3) := by decide +kernel
theorem dX6_enter_72 : decode cX6_enter 72 = .ok (.aload_n 0, 1) := by decide +kernel
theorem dX6_enter_73 : decode cX6_enter 73 = .ok (.getfield 25, 3) := by decide +kernel
theorem dX6_enter_76 : decode cX6_enter 76 = .ok (.getfield 111, 3) := by decide +kernel
theorem dX6_enter_79 : decode cX6_enter 79 = .ok (.iconst 0, 1) := by decide +kernel
theorem dX6_enter_80 : decode cX6_enter 80 = .ok (.aload_n 0, 1) := by decide +kernel
theorem dX6_enter_81 : decode cX6_enter 81 = .ok (.getfield 18, 3) := by decide +kernel
theorem dX6_enter_84 : decode cX6_enter 84 = .ok (.iconst 0, 1) := by decide +kernel
theorem dX6_enter_85 : decode cX6_enter 85 = .ok (.iaload, 1) := by decide +kernel
theorem dX6_enter_86 : decode cX6_enter 86 = .ok (.invokevirtual 142, 3) := by decide +kernel
theorem dX6_enter_89 : decode cX6_enter 89 = .ok (.aload_n 0, 1) := by decide +kernel
theorem dX6_enter_90 : decode cX6_enter 90 = .ok (.getfield 25, 3) := by decide +kernel
theorem dX6_enter_93 : decode cX6_enter 93 = .ok (.dup, 1) := by decide +kernel
theorem dX6_enter_94 : decode cX6_enter 94 = .ok (.getfield 111, 3) := by decide +kernel
theorem dX6_enter_97 : decode cX6_enter 97 = .ok (.iconst 1, 1) := by decide +kernel
theorem dX6_enter_98 : decode cX6_enter 98 = .ok (.iadd, 1) := by decide +kernel
theorem dX6_enter_99 : decode cX6_enter 99 = .ok (.putfield 111, 3) := by decide +kernel
theorem dX6_enter_102 : decode cX6_enter 102 = .ok (.goto 137, 3) := by decide +kernel
theorem dX6_enter_105 : decode cX6_enter 105 = .ok (.aload_n 0, 1) := by decide +kernel
theorem dX6_enter_106 : decode cX6_enter 106 = .ok (.getfield 25, 3) := by decide +kernel
theorem dX6_enter_109 : decode cX6_enter 109 = .ok (.aload_n 0, 1) := by decide +kernel
theorem dX6_enter_110 : decode cX6_enter 110 = .ok (.getfield 18, 3) := by decide +kernel
theorem dX6_enter_113 : decode cX6_enter 113 = .ok (.iconst 0, 1) := by decide +kernel
theorem dX6_enter_114 : decode cX6_enter 114 = .ok (.iaload, 1) := by decide +kernel
theorem dX6_enter_115 : decode cX6_enter 115 = .ok (.aload_n 0, 1) := by decide +kernel
theorem dX6_enter_116 : decode cX6_enter 116 = .ok (.getfield 18, 3) := by decide +kernel
theorem dX6_enter_119 : decode cX6_enter 119 = .ok (.iconst 1, 1) := by decide +kernel
theorem dX6_enter_120 : decode cX6_enter 120 = .ok (.iaload, 1) := by decide +kernel
theorem dX6_enter_121 : decode cX6_enter 121 = .ok (.aload_n 0, 1) := by decide +kernel
theorem dX6_enter_122 : decode cX6_enter 122 = .ok (.getfield 18, 3) := by decide +kernel
theorem dX6_enter_125 : decode cX6_enter 125 = .ok (.iconst 2, 1) := by decide +kernel
theorem dX6_enter_126 : decode cX6_enter 126 = .ok (.iaload, 1) := by decide +kernel
theorem dX6_enter_127 : decode cX6_enter 127 = .ok (.invokevirtual 142, 3) := by decide +kernel
theorem dX6_enter_130 : decode cX6_enter 130 = .ok (.goto 109, 3) := by decide +kernel
theorem dX6_enter_133 : decode cX6_enter 133 = .ok (.aload_n 0, 1) := by decide +kernel
theorem dX6_enter_134 : decode cX6_enter 134 = .ok (.getfield 25, 3) := by decide +kernel
theorem dX6_enter_137 : decode cX6_enter 137 = .ok (.getfield 146, 3) := by decide +kernel
theorem dX6_enter_140 : decode cX6_enter 140 = .ok (.aload_n 0, 1) := by decide +kernel
theorem dX6_enter_141 : decode cX6_enter 141 = .ok (.getfield 18, 3) := by decide +kernel
theorem dX6_enter_144 : decode cX6_enter 144 = .ok (.iconst 0, 1) := by decide +kernel
theorem dX6_enter_145 : decode cX6_enter 145 = .ok (.iaload, 1) := by decide +kernel
theorem dX6_enter_146 : decode cX6_enter 146 = .ok (.bipush 40, 2) := by decide +kernel
theorem dX6_enter_148 : decode cX6_enter 148 = .ok (.imul, 1) := by decide +kernel
theorem dX6_enter_149 : decode cX6_enter 149 = .ok (.aload_n 0, 1) := by decide +kernel
theorem dX6_enter_150 : decode cX6_enter 150 = .ok (.getfield 18, 3) := by decide +kernel
theorem dX6_enter_153 : decode cX6_enter 153 = .ok (.iconst 1, 1) := by decide +kernel
theorem dX6_enter_154 : decode cX6_enter 154 = .ok (.iaload, 1) := by decide +kernel
theorem dX6_enter_155 : decode cX6_enter 155 = .ok (.iadd, 1) := by decide +kernel
theorem dX6_enter_156 : decode cX6_enter 156 = .ok (.aload_n 0, 1) := by decide +kernel
theorem dX6_enter_157 : decode cX6_enter 157 = .ok (.getfield 18, 3) := by decide +kernel
theorem dX6_enter_160 : decode cX6_enter 160 = .ok (.iconst 2, 1) := by decide +kernel
theorem dX6_enter_161 : decode cX6_enter 161 = .ok (.iaload, 1) := by decide +kernel
theorem dX6_enter_162 : decode cX6_enter 162 = .ok (.iastore, 1) := by decide +kernel
theorem dX6_enter_163 : decode cX6_enter 163 = .ok (.goto 76, 3) := by decide +kernel
theorem dX6_enter_166 : decode cX6_enter 166 = .ok (.aload_n 0, 1) := by decide +kernel
theorem dX6_enter_167 : decode cX6_enter 167 = .ok (.getfield 25, 3) := by decide +kernel
theorem dX6_enter_170 : decode cX6_enter 170 = .ok (.aload_n 0, 1) := by decide +kernel
theorem dX6_enter_171 : decode cX6_enter 171 = .ok (.getfield 18, 3) := by decide +kernel
theorem dX6_enter_174 : decode cX6_enter 174 = .ok (.iconst 0, 1) := by decide +kernel
theorem dX6_enter_175 : decode cX6_enter 175 = .ok (.iaload, 1) := by decide +kernel
theorem dX6_enter_176 : decode cX6_enter 176 = .ok (.aload_n 0, 1) := by decide +kernel
theorem dX6_enter_177 : decode cX6_enter 177 = .ok (.getfield 18, 3) := by decide +kernel
theorem dX6_enter_180 : decode cX6_enter 180 = .ok (.iconst 1, 1) := by decide +kernel
theorem dX6_enter_181 : decode cX6_enter 181 = .ok (.iaload, 1) := by decide +kernel
theorem dX6_enter_182 : decode cX6_enter 182 = .ok (.aload_n 0, 1) := by decide +kernel
theorem dX6_enter_183 : decode cX6_enter 183 = .ok (.getfield 18, 3) := by decide +kernel
theorem dX6_enter_186 : decode cX6_enter 186 = .ok (.iconst 2, 1) := by decide +kernel
theorem dX6_enter_187 : decode cX6_enter 187 = .ok (.iaload, 1) := by decide +kernel
theorem dX6_enter_188 : decode cX6_enter 188 = .ok (.invokevirtual 149, 3) := by decide +kernel
theorem dX6_enter_191 : decode cX6_enter 191 = .ok (.pop, 1) := by decide +kernel
theorem dX6_enter_192 : decode cX6_enter 192 = .ok (.goto 47, 3) := by decide +kernel
theorem dX6_enter_195 : decode cX6_enter 195 = .ok (.aload_n 0, 1) := by decide +kernel
theorem dX6_enter_196 : decode cX6_enter 196 = .ok (.getfield 25, 3) := by decide +kernel
theorem dX6_enter_199 : decode cX6_enter 199 = .ok (.aload_n 0, 1) := by decide +kernel
theorem dX6_enter_200 : decode cX6_enter 200 = .ok (.getfield 18, 3) := by decide +kernel
theorem dX6_enter_203 : decode cX6_enter 203 = .ok (.iconst 0, 1) := by decide +kernel
theorem dX6_enter_204 : decode cX6_enter 204 = .ok (.iaload, 1) := by decide +kernel
theorem dX6_enter_205 : decode cX6_enter 205 = .ok (.aload_n 1, 1) := by decide +kernel
theorem dX6_enter_206 : decode cX6_enter 206 = .ok (.getstatic 153, 3) := by decide +kernel
theorem dX6_enter_209 : decode cX6_enter 209 = .ok (.if_acmp .ne 7, 3) := by decide +kernel
theorem dX6_enter_212 : decode cX6_enter 212 = .ok (.iconst 1, 1) := by decide +kernel
theorem dX6_enter_213 : decode cX6_enter 213 = .ok (.goto 4, 3) := by decide +kernel
theorem dX6_enter_216 : decode cX6_enter 216 = .ok (.iconst 0, 1) := by decide +kernel
theorem dX6_enter_217 : decode cX6_enter 217 = .ok (.aload_n 0, 1) := by decide +kernel
theorem dX6_enter_218 : decode cX6_enter 218 = .ok (.getfield 18, 3) := by decide +kernel
theorem dX6_enter_221 : decode cX6_enter 221 = .ok (.iconst 1, 1) := by decide +kernel
theorem dX6_enter_222 : decode cX6_enter 222 = .ok (.iaload, 1) := by decide +kernel
theorem dX6_enter_223 : decode cX6_enter 223 = .ok (.aload_n 0, 1) := by decide +kernel
theorem dX6_enter_224 : decode cX6_enter 224 = .ok (.getfield 18, 3) := by decide +kernel
theorem dX6_enter_227 : decode cX6_enter 227 = .ok (.iconst 2, 1) := by decide +kernel
theorem dX6_enter_228 : decode cX6_enter 228 = .ok (.iaload, 1) := by decide +kernel
theorem dX6_enter_229 : decode cX6_enter 229 = .ok (.aload_n 0, 1) := by decide +kernel
theorem dX6_enter_230 : decode cX6_enter 230 = .ok (.getfield 18, 3) := by decide +kernel
theorem dX6_enter_233 : decode cX6_enter 233 = .ok (.iconst 3, 1) := by decide +kernel
theorem dX6_enter_234 : decode cX6_enter 234 = .ok (.iaload, 1) := by decide +kernel
theorem dX6_enter_235 : decode cX6_enter 235 = .ok (.invokevirtual 156, 3) := by decide +kernel
theorem dX6_enter_238 : decode cX6_enter 238 = .ok (.pop, 1) := by decide +kernel
theorem dX6_enter_239 : decode cX6_enter 239 = .ok (.return_, 1) := by decide +kernel
theorem dX6_advance_0 : decode cX6_advance 0 = .ok (.aload_n 0, 1) := by decide +kernel
theorem dX6_advance_1 : decode cX6_advance 1 = .ok (.aload_n 0, 1) := by decide +kernel
theorem dX6_advance_2 : decode cX6_advance 2 = .ok (.getfield 32, 3) := by decide +kernel
theorem dX6_advance_5 : decode cX6_advance 5 = .ok (.putfield 93, 3) := by decide +kernel
theorem dX6_advance_8 : decode cX6_advance 8 = .ok (.aload_n 0, 1) := by decide +kernel
theorem dX6_advance_9 : decode cX6_advance 9 = .ok (.getfield 93, 3) := by decide +kernel
theorem dX6_advance_12 : decode cX6_advance 12 = .ok (.aload_n 0, 1) := by decide +kernel
theorem dX6_advance_13 : decode cX6_advance 13 = .ok (.getfield 12, 3) := by decide +kernel
theorem dX6_advance_16 : decode cX6_advance 16 = .ok (.getfield 160, 3) := by decide +kernel
theorem dX6_advance_19 : decode cX6_advance 19 = .ok (.if_icmp .ge 33, 3) := by decide +kernel
theorem dX6_advance_22 : decode cX6_advance 22 = .ok (.aload_n 0, 1) := by decide +kernel
theorem dX6_advance_23 : decode cX6_advance 23 = .ok (.getfield 12, 3) := by decide +kernel
theorem dX6_advance_26 : decode cX6_advance 26 = .ok (.aload_n 0, 1) := by decide +kernel
theorem dX6_advance_27 : decode cX6_advance 27 = .ok (.getfield 93, 3) := by decide +kernel
theorem dX6_advance_30 : decode cX6_advance 30 = .ok (.invokevirtual 100, 3) := by decide +kernel
theorem dX6_advance_33 : decode cX6_advance 33 = .ok (.invokestatic 163, 3) := by decide +kernel
theorem dX6_advance_36 : decode cX6_advance 36 = .ok (.ifCond .eq 16, 3) := by decide +kernel
theorem dX6_advance_39 : decode cX6_advance 39 = .ok (.aload_n 0, 1) := by decide +kernel
theorem dX6_advance_40 : decode cX6_advance 40 = .ok (.dup, 1) := by decide +kernel
theorem dX6_advance_41 : decode cX6_advance 41 = .ok (.getfield 93, 3) := by decide +kernel
theorem dX6_advance_44 : decode cX6_advance 44 = .ok (.iconst 1, 1) := by decide +kernel
theorem dX6_advance_45 : decode cX6_advance 45 = .ok (.iadd, 1) := by decide +kernel
theorem dX6_advance_46 : decode cX6_advance 46 = .ok (.putfield 93, 3) := by decide +kernel
theorem dX6_advance_49 : decode cX6_advance 49 = .ok (.goto (-41), 3) := by decide +kernel
theorem dX6_advance_52 : decode cX6_advance 52 = .ok (.aload_n 0, 1) := by decide +kernel
theorem dX6_advance_53 : decode cX6_advance 53 = .ok (.aload_n 0, 1) := by decide +kernel
theorem dX6_advance_54 : decode cX6_advance 54 = .ok (.getfield 93, 3) := by decide +kernel
theorem dX6_advance_57 : decode cX6_advance 57 = .ok (.putfield 32, 3) := by decide +kernel
theorem dX6_advance_60 : decode cX6_advance 60 = .ok (.aload_n 0, 1) := by decide +kernel
theorem dX6_advance_61 : decode cX6_advance 61 = .ok (.getfield 93, 3) := by decide +kernel
theorem dX6_advance_64 : decode cX6_advance 64 = .ok (.sipush 600, 3) := by decide +kernel
theorem dX6_advance_67 : decode cX6_advance 67 = .ok (.if_icmp .lt 31, 3) := by decide +kernel
theorem dX6_advance_70 : decode cX6_advance 70 = .ok (.aload_n 0, 1) := by decide +kernel
theorem dX6_advance_71 : decode cX6_advance 71 = .ok (.getfield 12, 3) := by decide +kernel
theorem dX6_advance_74 : decode cX6_advance 74 = .ok (.getfield 160, 3) := by decide +kernel
theorem dX6_advance_77 : decode cX6_advance 77 = .ok (.sipush 600, 3) := by decide +kernel
theorem dX6_advance_80 : decode cX6_advance 80 = .ok (.if_icmp .le 18, 3) := by decide +kernel
theorem dX6_advance_83 : decode cX6_advance 83 = .ok (.aload_n 0, 1) := by decide +kernel
theorem dX6_advance_84 : decode cX6_advance 84 = .ok (.sipush 600, 3) := by decide +kernel
theorem dX6_advance_87 : decode cX6_advance 87 = .ok (.putfield 93, 3) := by decide +kernel
theorem dX6_advance_90 : decode cX6_advance 90 = .ok (.aload_n 0, 1) := by decide +kernel
theorem dX6_advance_91 : decode cX6_advance 91 = .ok (.iconst 0, 1) := by decide +kernel
theorem dX6_advance_92 : decode cX6_advance 92 = .ok (.putfield 45, 3) := by decide +kernel
theorem dX6_advance_95 : decode cX6_advance 95 = .ok (.goto 63, 3) := by decide +kernel
theorem dX6_advance_98 : decode cX6_advance 98 = .ok (.aload_n 0, 1) := by decide +kernel
theorem dX6_advance_99 : decode cX6_advance 99 = .ok (.getfield 93, 3) := by decide +kernel
theorem dX6_advance_102 : decode cX6_advance 102 = .ok (.aload_n 0, 1) := by decide +kernel
theorem dX6_advance_103 : decode cX6_advance 103 = .ok (.getfield 12, 3) := by decide +kernel
theorem dX6_advance_106 : decode cX6_advance 106 = .ok (.getfield 160, 3) := by decide +kernel
theorem dX6_advance_109 : decode cX6_advance 109 = .ok (.if_icmp .lt 11, 3) := by decide +kernel
theorem dX6_advance_112 : decode cX6_advance 112 = .ok (.aload_n 0, 1) := by decide +kernel
theorem dX6_advance_113 : decode cX6_advance 113 = .ok (.iconst 1, 1) := by decide +kernel
theorem dX6_advance_114 : decode cX6_advance 114 = .ok (.putfield 45, 3) := by decide +kernel
theorem dX6_advance_117 : decode cX6_advance 117 = .ok (.goto 41, 3) := by decide +kernel
theorem dX6_advance_120 : decode cX6_advance 120 = .ok (.aload_n 0, 1) := by decide +kernel
theorem dX6_advance_121 : decode cX6_advance 121 = .ok (.getfield 12, 3) := by decide +kernel
theorem dX6_advance_124 : decode cX6_advance 124 = .ok (.aload_n 0, 1) := by decide +kernel
theorem dX6_advance_125 : decode cX6_advance 125 = .ok (.getfield 93, 3) := by decide +kernel
theorem dX6_advance_128 : decode cX6_advance 128 = .ok (.invokevirtual 100, 3) := by decide +kernel
theorem dX6_advance_131 : decode cX6_advance 131 = .ok (.bipush 59, 2) := by decide +kernel
theorem dX6_advance_133 : decode cX6_advance 133 = .ok (.if_icmp .ne 21, 3) := by decide +kernel
theorem dX6_advance_136 : decode cX6_advance 136 = .ok (.aload_n 0, 1) := by decide +kernel
theorem dX6_advance_137 : decode cX6_advance 137 = .ok (.iconst 4, 1) := by decide +kernel
theorem dX6_advance_138 : decode cX6_advance 138 = .ok (.putfield 45, 3) := by decide +kernel
theorem dX6_advance_141 : decode cX6_advance 141 = .ok (.aload_n 0, 1) := by decide +kernel
theorem dX6_advance_142 : decode cX6_advance 142 = .ok (.aload_n 0, 1) := by decide +kernel
theorem dX6_advance_143 : decode cX6_advance 143 = .ok (.getfield 93, 3) := by decide +kernel
theorem dX6_advance_146 : decode cX6_advance 146 = .ok (.iconst 1, 1) := by decide +kernel
theorem dX6_advance_147 : decode cX6_advance 147 = .ok (.iadd, 1) := by decide +kernel
theorem dX6_advance_148 : decode cX6_advance 148 = .ok (.putfield 32, 3) := by decide +kernel
theorem dX6_advance_151 : decode cX6_advance 151 = .ok (.goto 7, 3) := by decide +kernel
theorem dX6_advance_154 : decode cX6_advance 154 = .ok (.aload_n 0, 1) := by decide +kernel
theorem dX6_advance_155 : decode cX6_advance 155 = .ok (.invokevirtual 166, 3) := by decide +kernel
theorem dX6_advance_158 : decode cX6_advance 158 = .ok (.return_, 1) := by decide +kernel
theorem dX6_takeRun_0 : decode cX6_takeRun 0 = .ok (.iconst 0, 1) := by decide +kernel
theorem dX6_takeRun_1 : decode cX6_takeRun 1 = .ok (.istore_n 1, 1) := by decide +kernel
theorem dX6_takeRun_2 : decode cX6_takeRun 2 = .ok (.iconst 0, 1) := by decide +kernel
theorem dX6_takeRun_3 : decode cX6_takeRun 3 = .ok (.istore_n 2, 1) := by decide +kernel
theorem dX6_takeRun_4 : decode cX6_takeRun 4 = .ok (.aload_n 0, 1) := by decide +kernel
theorem dX6_takeRun_5 : decode cX6_takeRun 5 = .ok (.iconst 0, 1) := by decide +kernel
theorem dX6_takeRun_6 : decode cX6_takeRun 6 = .ok (.putfield 128, 3) := by decide +kernel
theorem dX6_takeRun_9 : decode cX6_takeRun 9 = .ok (.aload_n 0, 1) := by decide +kernel
theorem dX6_takeRun_10 : decode cX6_takeRun 10 = .ok (.getfield 32, 3) := by decide +kernel
theorem dX6_takeRun_13 : decode cX6_takeRun 13 = .ok (.aload_n 0, 1) := by decide +kernel
theorem dX6_takeRun_14 : decode cX6_takeRun 14 = .ok (.getfield 12, 3) := by decide +kernel
theorem dX6_takeRun_17 : decode cX6_takeRun 17 = .ok (.getfield 160, 3) := by decide +kernel
theorem dX6_takeRun_20 : decode cX6_takeRun 20 = .ok (.if_icmp .ge 94, 3) := by decide +kernel
theorem dX6_takeRun_23 : decode cX6_takeRun 23 = .ok (.aload_n 0, 1) := by decide +kernel
theorem dX6_takeRun_24 : decode cX6_takeRun 24 = .ok (.getfield 12, 3) := by decide +kernel
theorem dX6_takeRun_27 : decode cX6_takeRun 27 = .ok (.aload_n 0, 1) := by decide +kernel
theorem dX6_takeRun_28 : decode cX6_takeRun 28 = .ok (.getfield 32, 3) := by decide +kernel
theorem dX6_takeRun_31 : decode cX6_takeRun 31 = .ok (.invokevirtual 100, 3) := by decide +kernel
theorem dX6_takeRun_34 : decode cX6_takeRun 34 = .ok (.invokestatic 169, 3) := by decide +kernel
theorem dX6_takeRun_37 : decode cX6_takeRun 37 = .ok (.ifCond .eq 77, 3) := by decide +kernel
theorem dX6_takeRun_40 : decode cX6_takeRun 40 = .ok (.aload_n 0, 1) := by decide +kernel
theorem dX6_takeRun_41 : decode cX6_takeRun 41 = .ok (.getfield 12, 3) := by decide +kernel
theorem dX6_takeRun_44 : decode cX6_takeRun 44 = .ok (.aload_n 0, 1) := by decide +kernel
theorem dX6_takeRun_45 : decode cX6_takeRun 45 = .ok (.getfield 32, 3) := by decide +kernel
theorem dX6_takeRun_48 : decode cX6_takeRun 48 = .ok (.invokevirtual 100, 3) := by decide +kernel
theorem dX6_takeRun_51 : decode cX6_takeRun 51 = .ok (.invokestatic 172, 3) := by decide +kernel
theorem dX6_takeRun_54 : decode cX6_takeRun 54 = .ok (.ifCond .eq 44, 3) := by decide +kernel
theorem dX6_takeRun_57 : decode cX6_takeRun 57 = .ok (.iinc 2 1, 3) := by decide +kernel
theorem dX6_takeRun_60 : decode cX6_takeRun 60 = .ok (.aload_n 0, 1) := by decide +kernel
theorem dX6_takeRun_61 : decode cX6_takeRun 61 = .ok (.iload_n 2, 1) := by decide +kernel
theorem dX6_takeRun_62 : decode cX6_takeRun 62 = .ok (.iconst 5, 1) := by decide +kernel
theorem dX6_takeRun_63 : decode cX6_takeRun 63 = .ok (.if_icmp .le 7, 3) := by decide +kernel
theorem dX6_takeRun_66 : decode cX6_takeRun 66 = .ok (.iconst 0, 1) := by decide +kernel
theorem dX6_takeRun_67 : decode cX6_takeRun 67 = .ok (.goto 25, 3) := by decide +kernel
theorem dX6_takeRun_70 : decode cX6_takeRun 70 = .ok (.aload_n 0, 1) := by decide +kernel
theorem dX6_takeRun_71 : decode cX6_takeRun 71 = .ok (.getfield 128, 3) := by decide +kernel
theorem dX6_takeRun_74 : decode cX6_takeRun 74 = .ok (.bipush 10, 2) := by decide +kernel
theorem dX6_takeRun_76 : decode cX6_takeRun 76 = .ok (.imul, 1) := by decide +kernel
theorem dX6_takeRun_77 : decode cX6_takeRun 77 = .ok (.aload_n 0, 1) := by decide +kernel
theorem dX6_takeRun_78 : decode cX6_takeRun 78 = .ok (.getfield 12, 3) := by decide +kernel
theorem dX6_takeRun_81 : decode cX6_takeRun 81 = .ok (.aload_n 0, 1) := by decide +kernel
theorem dX6_takeRun_82 : decode cX6_takeRun 82 = .ok (.getfield 32, 3) := by decide +kernel
theorem dX6_takeRun_85 : decode cX6_takeRun 85 = .ok (.invokevirtual 100, 3) := by decide +kernel
theorem dX6_takeRun_88 : decode cX6_takeRun 88 = .ok (.iadd, 1) := by decide +kernel
theorem dX6_takeRun_89 : decode cX6_takeRun 89 = .ok (.bipush 48, 2) := by decide +kernel
theorem dX6_takeRun_91 : decode cX6_takeRun 91 = .ok (.isub, 1) := by decide +kernel
theorem dX6_takeRun_92 : decode cX6_takeRun 92 = .ok (.putfield 128, 3) := by decide +kernel
theorem dX6_takeRun_95 : decode cX6_takeRun 95 = .ok (.goto 6, 3) := by decide +kernel
theorem dX6_takeRun_98 : decode cX6_takeRun 98 = .ok (.iinc 1 1, 3) := by decide +kernel
theorem dX6_takeRun_101 : decode cX6_takeRun 101 = .ok (.aload_n 0, 1) := by decide +kernel
theorem dX6_takeRun_102 : decode cX6_takeRun 102 = .ok (.dup, 1) := by decide +kernel
theorem dX6_takeRun_103 : decode cX6_takeRun 103 = .ok (.getfield 32, 3) := by decide +kernel
theorem dX6_takeRun_106 : decode cX6_takeRun 106 = .ok (.iconst 1, 1) := by decide +kernel
theorem dX6_takeRun_107 : decode cX6_takeRun 107 = .ok (.iadd, 1) := by decide +kernel
theorem dX6_takeRun_108 : decode cX6_takeRun 108 = .ok (.putfield 32, 3) := by decide +kernel
theorem dX6_takeRun_111 : decode cX6_takeRun 111 = .ok (.goto (-102), 3) := by decide +kernel
theorem dX6_takeRun_114 : decode cX6_takeRun 114 = .ok (.iload_n 1, 1) := by decide +kernel
theorem dX6_takeRun_115 : decode cX6_takeRun 115 = .ok (.ifCond .le 15, 3) := by decide +kernel
theorem dX6_takeRun_118 : decode cX6_takeRun 118 = .ok (.iload_n 2, 1) := by decide +kernel
theorem dX6_takeRun_119 : decode cX6_takeRun 119 = .ok (.ifCond .ne 11, 3) := by decide +kernel
theorem dX6_takeRun_122 : decode cX6_takeRun 122 = .ok (.aload_n 0, 1) := by decide +kernel
theorem dX6_takeRun_123 : decode cX6_takeRun 123 = .ok (.iconst 2, 1) := by decide +kernel
theorem dX6_takeRun_124 : decode cX6_takeRun 124 = .ok (.putfield 45, 3) := by decide +kernel
theorem dX6_takeRun_127 : decode cX6_takeRun 127 = .ok (.goto 29, 3) := by decide +kernel
theorem dX6_takeRun_130 : decode cX6_takeRun 130 = .ok (.iload_n 1, 1) := by decide +kernel
theorem dX6_takeRun_131 : decode cX6_takeRun 131 = .ok (.ifCond .ne 20, 3) := by decide +kernel
theorem dX6_takeRun_134 : decode cX6_takeRun 134 = .ok (.iload_n 2, 1) := by decide +kernel
theorem dX6_takeRun_135 : decode cX6_takeRun 135 = .ok (.ifCond .le 16, 3) := by decide +kernel
theorem dX6_takeRun_138 : decode cX6_takeRun 138 = .ok (.iload_n 2, 1) := by decide +kernel
theorem dX6_takeRun_139 : decode cX6_takeRun 139 = .ok (.iconst 5, 1) := by decide +kernel
theorem dX6_takeRun_140 : decode cX6_takeRun 140 = .ok (.if_icmp .gt 11, 3) := by decide +kernel
theorem dX6_takeRun_143 : decode cX6_takeRun 143 = .ok (.aload_n 0, 1) := by decide +kernel
theorem dX6_takeRun_144 : decode cX6_takeRun 144 = .ok (.iconst 3, 1) := by decide +kernel
theorem dX6_takeRun_145 : decode cX6_takeRun 145 = .ok (.putfield 45, 3) := by decide +kernel
theorem dX6_takeRun_148 : decode cX6_takeRun 148 = .ok (.goto 8, 3) := by decide +kernel
theorem dX6_takeRun_151 : decode cX6_takeRun 151 = .ok (.aload_n 0, 1) := by decide +kernel
theorem dX6_takeRun_152 : decode cX6_takeRun 152 = .ok (.iconst 0, 1) := by decide +kernel
theorem dX6_takeRun_153 : decode cX6_takeRun 153 = .ok (.putfield 45, 3) := by decide +kernel
theorem dX6_takeRun_156 : decode cX6_takeRun 156 = .ok (.return_, 1) := by decide +kernel
theorem dX6_isBlank_0 : decode cX6_isBlank 0 = .ok (.iload_n 0, 1) := by decide +kernel
theorem dX6_isBlank_1 : decode cX6_isBlank 1 = .ok (.bipush 32, 2) := by decide +kernel
theorem dX6_isBlank_3 : decode cX6_isBlank 3 = .ok (.if_icmp .eq 9, 3) := by decide +kernel
theorem dX6_isBlank_6 : decode cX6_isBlank 6 = .ok (.iload_n 0, 1) := by decide +kernel
theorem dX6_isBlank_7 : decode cX6_isBlank 7 = .ok (.bipush 10, 2) := by decide +kernel
theorem dX6_isBlank_9 : decode cX6_isBlank 9 = .ok (.if_icmp .ne 7, 3) := by decide +kernel
theorem dX6_isBlank_12 : decode cX6_isBlank 12 = .ok (.iconst 1, 1) := by decide +kernel
theorem dX6_isBlank_13 : decode cX6_isBlank 13 = .ok (.goto 4, 3) := by decide +kernel
theorem dX6_isBlank_16 : decode cX6_isBlank 16 = .ok (.iconst 0, 1) := by decide +kernel
theorem dX6_isBlank_17 : decode cX6_isBlank 17 = .ok (.ireturn, 1) := by decide +kernel
theorem dX6_isDigit_0 : decode cX6_isDigit 0 = .ok (.iload_n 0, 1) := by decide +kernel
theorem dX6_isDigit_1 : decode cX6_isDigit 1 = .ok (.bipush 48, 2) := by decide +kernel
theorem dX6_isDigit_3 : decode cX6_isDigit 3 = .ok (.if_icmp .lt 13, 3) := by decide +kernel
theorem dX6_isDigit_6 : decode cX6_isDigit 6 = .ok (.iload_n 0, 1) := by decide +kernel
theorem dX6_isDigit_7 : decode cX6_isDigit 7 = .ok (.bipush 57, 2) := by decide +kernel
theorem dX6_isDigit_9 : decode cX6_isDigit 9 = .ok (.if_icmp .gt 7, 3) := by decide +kernel
theorem dX6_isDigit_12 : decode cX6_isDigit 12 = .ok (.iconst 1, 1) := by decide +kernel
theorem dX6_isDigit_13 : decode cX6_isDigit 13 = .ok (.goto 4, 3) := by decide +kernel
theorem dX6_isDigit_16 : decode cX6_isDigit 16 = .ok (.iconst 0, 1) := by decide +kernel
theorem dX6_isDigit_17 : decode cX6_isDigit 17 = .ok (.ireturn, 1) := by decide +kernel
theorem dX6_isOfRun_0 : decode cX6_isOfRun 0 = .ok (.iload_n 0, 1) := by decide +kernel
theorem dX6_isOfRun_1 : decode cX6_isOfRun 1 = .ok (.invokestatic 172, 3) := by decide +kernel
theorem dX6_isOfRun_4 : decode cX6_isOfRun 4 = .ok (.ifCond .ne 15, 3) := by decide +kernel
theorem dX6_isOfRun_7 : decode cX6_isOfRun 7 = .ok (.iload_n 0, 1) := by decide +kernel
theorem dX6_isOfRun_8 : decode cX6_isOfRun 8 = .ok (.bipush 97, 2) := by decide +kernel
theorem dX6_isOfRun_10 : decode cX6_isOfRun 10 = .ok (.if_icmp .lt 13, 3) := by decide +kernel
theorem dX6_isOfRun_13 : decode cX6_isOfRun 13 = .ok (.iload_n 0, 1) := by decide +kernel
theorem dX6_isOfRun_14 : decode cX6_isOfRun 14 = .ok (.bipush 122, 2) := by decide +kernel
theorem dX6_isOfRun_16 : decode cX6_isOfRun 16 = .ok (.if_icmp .gt 7, 3) := by decide +kernel
theorem dX6_isOfRun_19 : decode cX6_isOfRun 19 = .ok (.iconst 1, 1) := by decide +kernel
theorem dX6_isOfRun_20 : decode cX6_isOfRun 20 = .ok (.goto 4, 3) := by decide +kernel
theorem dX6_isOfRun_23 : decode cX6_isOfRun 23 = .ok (.iconst 0, 1) := by decide +kernel
theorem dX6_isOfRun_24 : decode cX6_isOfRun 24 = .ok (.ireturn, 1) := by decide +kernel
theorem dX7_init_0 : decode cX7_init 0 = .ok (.aload_n 0, 1) := by decide +kernel
theorem dX7_init_1 : decode cX7_init 1 = .ok (.invokespecial 3, 3) := by decide +kernel
theorem dX7_init_4 : decode cX7_init 4 = .ok (.aload_n 0, 1) := by decide +kernel
theorem dX7_init_5 : decode cX7_init 5 = .ok (.sipush 640, 3) := by decide +kernel
theorem dX7_init_8 : decode cX7_init 8 = .ok (.newarray .byte, 2) := by decide +kernel
theorem dX7_init_10 : decode cX7_init 10 = .ok (.putfield 11, 3) := by decide +kernel
theorem dX7_init_13 : decode cX7_init 13 = .ok (.return_, 1) := by decide +kernel
theorem dX7_add_0 : decode cX7_add 0 = .ok (.bipush 24, 2) := by decide +kernel
theorem dX7_add_2 : decode cX7_add 2 = .ok (.istore_n 2, 1) := by decide +kernel
theorem dX7_add_3 : decode cX7_add 3 = .ok (.iload_n 2, 1) := by decide +kernel
theorem dX7_add_4 : decode cX7_add 4 = .ok (.ifCond .lt 42, 3) := by decide +kernel
theorem dX7_add_7 : decode cX7_add 7 = .ok (.aload_n 0, 1) := by decide +kernel
theorem dX7_add_8 : decode cX7_add 8 = .ok (.getfield 15, 3) := by decide +kernel
theorem dX7_add_11 : decode cX7_add 11 = .ok (.sipush 640, 3) := by decide +kernel
theorem dX7_add_14 : decode cX7_add 14 = .ok (.if_icmp .ge 32, 3) := by decide +kernel
theorem dX7_add_17 : decode cX7_add 17 = .ok (.aload_n 0, 1) := by decide +kernel
theorem dX7_add_18 : decode cX7_add 18 = .ok (.getfield 11, 3) := by decide +kernel
theorem dX7_add_21 : decode cX7_add 21 = .ok (.aload_n 0, 1) := by decide +kernel
theorem dX7_add_22 : decode cX7_add 22 = .ok (.getfield 15, 3) := by decide +kernel
theorem dX7_add_25 : decode cX7_add 25 = .ok (.iload_n 1, 1) := by decide +kernel
theorem dX7_add_26 : decode cX7_add 26 = .ok (.iload_n 2, 1) := by decide +kernel
theorem dX7_add_27 : decode cX7_add 27 = .ok (.ishr, 1) := by decide +kernel
theorem dX7_add_28 : decode cX7_add 28 = .ok (.i2b, 1) := by decide +kernel
theorem dX7_add_29 : decode cX7_add 29 = .ok (.bastore, 1) := by decide +kernel
theorem dX7_add_30 : decode cX7_add 30 = .ok (.aload_n 0, 1) := by decide +kernel
theorem dX7_add_31 : decode cX7_add 31 = .ok (.dup, 1) := by decide +kernel
theorem dX7_add_32 : decode cX7_add 32 = .ok (.getfield 15, 3) := by decide +kernel
theorem dX7_add_35 : decode cX7_add 35 = .ok (.iconst 1, 1) := by decide +kernel
theorem dX7_add_36 : decode cX7_add 36 = .ok (.iadd, 1) := by decide +kernel
theorem dX7_add_37 : decode cX7_add 37 = .ok (.putfield 15, 3) := by decide +kernel
theorem dX7_add_40 : decode cX7_add 40 = .ok (.iinc 2 (-8), 3) := by decide +kernel
theorem dX7_add_43 : decode cX7_add 43 = .ok (.goto (-40), 3) := by decide +kernel
theorem dX7_add_46 : decode cX7_add 46 = .ok (.return_, 1) := by decide +kernel
theorem dX7_at_0 : decode cX7_at 0 = .ok (.iload_n 1, 1) := by decide +kernel
theorem dX7_at_1 : decode cX7_at 1 = .ok (.ifCond .lt 11, 3) := by decide +kernel
theorem dX7_at_4 : decode cX7_at 4 = .ok (.iload_n 1, 1) := by decide +kernel
theorem dX7_at_5 : decode cX7_at 5 = .ok (.aload_n 0, 1) := by decide +kernel
theorem dX7_at_6 : decode cX7_at 6 = .ok (.getfield 15, 3) := by decide +kernel
theorem dX7_at_9 : decode cX7_at 9 = .ok (.if_icmp .lt 7, 3) := by decide +kernel
theorem dX7_at_12 : decode cX7_at 12 = .ok (.iconst (-1), 1) := by decide +kernel
theorem dX7_at_13 : decode cX7_at 13 = .ok (.goto 13, 3) := by decide +kernel
theorem dX7_at_16 : decode cX7_at 16 = .ok (.aload_n 0, 1) := by decide +kernel
theorem dX7_at_17 : decode cX7_at 17 = .ok (.getfield 11, 3) := by decide +kernel
theorem dX7_at_20 : decode cX7_at 20 = .ok (.iload_n 1, 1) := by decide +kernel
theorem dX7_at_21 : decode cX7_at 21 = .ok (.baload, 1) := by decide +kernel
theorem dX7_at_22 : decode cX7_at 22 = .ok (.sipush 255, 3) := by decide +kernel
theorem dX7_at_25 : decode cX7_at 25 = .ok (.iand, 1) := by decide +kernel
theorem dX7_at_26 : decode cX7_at 26 = .ok (.ireturn, 1) := by decide +kernel
theorem dX8_init_0 : decode cX8_init 0 = .ok (.aload_n 0, 1) := by decide +kernel
theorem dX8_init_1 : decode cX8_init 1 = .ok (.invokespecial 3, 3) := by decide +kernel
theorem dX8_init_4 : decode cX8_init 4 = .ok (.aload_n 0, 1) := by decide +kernel
theorem dX8_init_5 : decode cX8_init 5 = .ok (.new 9, 3) := by decide +kernel
theorem dX8_init_8 : decode cX8_init 8 = .ok (.dup, 1) := by decide +kernel
theorem dX8_init_9 : decode cX8_init 9 = .ok (.invokespecial 11, 3) := by decide +kernel
theorem dX8_init_12 : decode cX8_init 12 = .ok (.putfield 12, 3) := by decide +kernel
theorem dX8_init_15 : decode cX8_init 15 = .ok (.aload_n 0, 1) := by decide +kernel
theorem dX8_init_16 : decode cX8_init 16 = .ok (.aload_n 0, 1) := by decide +kernel
theorem dX8_init_17 : decode cX8_init 17 = .ok (.getfield 12, 3) := by decide +kernel
theorem dX8_init_20 : decode cX8_init 20 = .ok (.getfield 16, 3) := by decide +kernel
theorem dX8_init_23 : decode cX8_init 23 = .ok (.putfield 20, 3) := by decide +kernel
theorem dX8_init_26 : decode cX8_init 26 = .ok (.aload_n 0, 1) := by decide +kernel
theorem dX8_init_27 : decode cX8_init 27 = .ok (.new 21, 3) := by decide +kernel
theorem dX8_init_30 : decode cX8_init 30 = .ok (.dup, 1) := by decide +kernel
theorem dX8_init_31 : decode cX8_init 31 = .ok (.invokespecial 23, 3) := by decide +kernel
theorem dX8_init_34 : decode cX8_init 34 = .ok (.putfield 24, 3) := by decide +kernel
theorem dX8_init_37 : decode cX8_init 37 = .ok (.aload_n 0, 1) := by decide +kernel
theorem dX8_init_38 : decode cX8_init 38 = .ok (.new 28, 3) := by decide +kernel
theorem dX8_init_41 : decode cX8_init 41 = .ok (.dup, 1) := by decide +kernel
theorem dX8_init_42 : decode cX8_init 42 = .ok (.invokespecial 30, 3) := by decide +kernel
theorem dX8_init_45 : decode cX8_init 45 = .ok (.putfield 31, 3) := by decide +kernel
theorem dX8_init_48 : decode cX8_init 48 = .ok (.aload_n 0, 1) := by decide +kernel
theorem dX8_init_49 : decode cX8_init 49 = .ok (.bipush 117, 2) := by decide +kernel
theorem dX8_init_51 : decode cX8_init 51 = .ok (.anewarray 35, 3) := by decide +kernel
theorem dX8_init_54 : decode cX8_init 54 = .ok (.putfield 37, 3) := by decide +kernel
theorem dX8_init_57 : decode cX8_init 57 = .ok (.aload_n 0, 1) := by decide +kernel
theorem dX8_init_58 : decode cX8_init 58 = .ok (.new 41, 3) := by decide +kernel
theorem dX8_init_61 : decode cX8_init 61 = .ok (.dup, 1) := by decide +kernel
theorem dX8_init_62 : decode cX8_init 62 = .ok (.invokespecial 43, 3) := by decide +kernel
theorem dX8_init_65 : decode cX8_init 65 = .ok (.putfield 44, 3) := by decide +kernel
theorem dX8_init_68 : decode cX8_init 68 = .ok (.return_, 1) := by decide +kernel
theorem dX8_feed_0 : decode cX8_feed 0 = .ok (.aload_n 0, 1) := by decide +kernel
theorem dX8_feed_1 : decode cX8_feed 1 = .ok (.getfield 20, 3) := by decide +kernel
theorem dX8_feed_4 : decode cX8_feed 4 = .ok (.getfield 48, 3) := by decide +kernel
theorem dX8_feed_7 : decode cX8_feed 7 = .ok (.bipush 20, 2) := by decide +kernel
theorem dX8_feed_9 : decode cX8_feed 9 = .ok (.iadd, 1) := by decide +kernel
theorem dX8_feed_10 : decode cX8_feed 10 = .ok (.sipush 640, 3) := by decide +kernel
theorem dX8_feed_13 : decode cX8_feed 13 = .ok (.if_icmp .le 5, 3) := by decide +kernel
theorem dX8_feed_16 : decode cX8_feed 16 = .ok (.iconst (-1), 1) := by decide +kernel
theorem dX8_feed_17 : decode cX8_feed 17 = .ok (.ireturn, 1) := by decide +kernel
theorem dX8_feed_18 : decode cX8_feed 18 = .ok (.aload_n 0, 1) := by decide +kernel
theorem dX8_feed_19 : decode cX8_feed 19 = .ok (.getfield 20, 3) := by decide +kernel
theorem dX8_feed_22 : decode cX8_feed 22 = .ok (.iload_n 1, 1) := by decide +kernel
theorem dX8_feed_23 : decode cX8_feed 23 = .ok (.invokevirtual 54, 3) := by decide +kernel
theorem dX8_feed_26 : decode cX8_feed 26 = .ok (.aload_n 0, 1) := by decide +kernel
theorem dX8_feed_27 : decode cX8_feed 27 = .ok (.getfield 20, 3) := by decide +kernel
theorem dX8_feed_30 : decode cX8_feed 30 = .ok (.iload_n 2, 1) := by decide +kernel
theorem dX8_feed_31 : decode cX8_feed 31 = .ok (.invokevirtual 54, 3) := by decide +kernel
theorem dX8_feed_34 : decode cX8_feed 34 = .ok (.aload_n 0, 1) := by decide +kernel
theorem dX8_feed_35 : decode cX8_feed 35 = .ok (.getfield 20, 3) := by decide +kernel
theorem dX8_feed_38 : decode cX8_feed 38 = .ok (.iload_n 3, 1) := by decide +kernel
theorem dX8_feed_39 : decode cX8_feed 39 = .ok (.invokevirtual 54, 3) := by decide +kernel
theorem dX8_feed_42 : decode cX8_feed 42 = .ok (.aload_n 0, 1) := by decide +kernel
theorem dX8_feed_43 : decode cX8_feed 43 = .ok (.getfield 20, 3) := by decide +kernel
theorem dX8_feed_46 : decode cX8_feed 46 = .ok (.iload 4, 2) := by decide +kernel
theorem dX8_feed_48 : decode cX8_feed 48 = .ok (.invokevirtual 54, 3) := by decide +kernel
theorem dX8_feed_51 : decode cX8_feed 51 = .ok (.aload_n 0, 1) := by decide +kernel
theorem dX8_feed_52 : decode cX8_feed 52 = .ok (.getfield 20, 3) := by decide +kernel
theorem dX8_feed_55 : decode cX8_feed 55 = .ok (.iload 5, 2) := by decide +kernel
theorem dX8_feed_57 : decode cX8_feed 57 = .ok (.invokevirtual 54, 3) := by decide +kernel
theorem dX8_feed_60 : decode cX8_feed 60 = .ok (.aload_n 0, 1) := by decide +kernel
theorem dX8_feed_61 : decode cX8_feed 61 = .ok (.getfield 20, 3) := by decide +kernel
theorem dX8_feed_64 : decode cX8_feed 64 = .ok (.getfield 48, 3) := by decide +kernel
theorem dX8_feed_67 : decode cX8_feed 67 = .ok (.ireturn, 1) := by decide +kernel
theorem dX8_end_0 : decode cX8_end 0 = .ok (.iload_n 1, 1) := by decide +kernel
theorem dX8_end_1 : decode cX8_end 1 = .ok (.ifCond .lt 14, 3) := by decide +kernel
theorem dX8_end_4 : decode cX8_end 4 = .ok (.iload_n 1, 1) := by decide +kernel
theorem dX8_end_5 : decode cX8_end 5 = .ok (.aload_n 0, 1) := by decide +kernel
theorem dX8_end_6 : decode cX8_end 6 = .ok (.getfield 20, 3) := by decide +kernel
theorem dX8_end_9 : decode cX8_end 9 = .ok (.getfield 48, 3) := by decide +kernel
theorem dX8_end_12 : decode cX8_end 12 = .ok (.if_icmp .le 5, 3) := by decide +kernel
theorem dX8_end_15 : decode cX8_end 15 = .ok (.iconst 0, 1) := by decide +kernel
theorem dX8_end_16 : decode cX8_end 16 = .ok (.ireturn, 1) := by decide +kernel
theorem dX8_end_17 : decode cX8_end 17 = .ok (.aload_n 0, 1) := by decide +kernel
theorem dX8_end_18 : decode cX8_end 18 = .ok (.getfield 20, 3) := by decide +kernel
theorem dX8_end_21 : decode cX8_end 21 = .ok (.iload_n 1, 1) := by decide +kernel
theorem dX8_end_22 : decode cX8_end 22 = .ok (.putfield 48, 3) := by decide +kernel
theorem dX8_end_25 : decode cX8_end 25 = .ok (.iconst 1, 1) := by decide +kernel
theorem dX8_end_26 : decode cX8_end 26 = .ok (.ireturn, 1) := by decide +kernel
theorem dX8_text_0 : decode cX8_text 0 = .ok (.aload_n 0, 1) := by decide +kernel
theorem dX8_text_1 : decode cX8_text 1 = .ok (.getfield 12, 3) := by decide +kernel
theorem dX8_text_4 : decode cX8_text 4 = .ok (.invokevirtual 58, 3) := by decide +kernel
theorem dX8_text_7 : decode cX8_text 7 = .ok (.istore_n 1, 1) := by decide +kernel
theorem dX8_text_8 : decode cX8_text 8 = .ok (.aload_n 0, 1) := by decide +kernel
theorem dX8_text_9 : decode cX8_text 9 = .ok (.getfield 20, 3) := by decide +kernel
theorem dX8_text_12 : decode cX8_text 12 = .ok (.iconst 0, 1) := by decide +kernel
theorem dX8_text_13 : decode cX8_text 13 = .ok (.putfield 48, 3) := by decide +kernel
theorem dX8_text_16 : decode cX8_text 16 = .ok (.iload_n 1, 1) := by decide +kernel
theorem dX8_text_17 : decode cX8_text 17 = .ok (.ifCond .ne 13, 3) := by decide +kernel
theorem dX8_text_20 : decode cX8_text 20 = .ok (.iconst (-1), 1) := by decide +kernel
theorem dX8_text_21 : decode cX8_text 21 = .ok (.aload_n 0, 1) := by decide +kernel
theorem dX8_text_22 : decode cX8_text 22 = .ok (.getfield 12, 3) := by decide +kernel
theorem dX8_text_25 : decode cX8_text 25 = .ok (.getfield 62, 3) := by decide +kernel
theorem dX8_text_28 : decode cX8_text 28 = .ok (.isub, 1) := by decide +kernel
theorem dX8_text_29 : decode cX8_text 29 = .ok (.ireturn, 1) := by decide +kernel
theorem dX8_text_30 : decode cX8_text 30 = .ok (.aload_n 0, 1) := by decide +kernel
theorem dX8_text_31 : decode cX8_text 31 = .ok (.aload_n 0, 1) := by decide +kernel
theorem dX8_text_32 : decode cX8_text 32 = .ok (.getfield 12, 3) := by decide +kernel
theorem dX8_text_35 : decode cX8_text 35 = .ok (.aload_n 0, 1) := by decide +kernel
theorem dX8_text_36 : decode cX8_text 36 = .ok (.getfield 44, 3) := by decide +kernel
theorem dX8_text_39 : decode cX8_text 39 = .ok (.invokevirtual 65, 3) := by decide +kernel
theorem dX8_text_42 : decode cX8_text 42 = .ok (.putfield 44, 3) := by decide +kernel
theorem dX8_text_45 : decode cX8_text 45 = .ok (.aload_n 0, 1) := by decide +kernel
theorem dX8_text_46 : decode cX8_text 46 = .ok (.getfield 31, 3) := by decide +kernel
theorem dX8_text_49 : decode cX8_text 49 = .ok (.invokevirtual 69, 3) := by decide +kernel
theorem dX8_text_52 : decode cX8_text 52 = .ok (.aload_n 0, 1) := by decide +kernel
theorem dX8_text_53 : decode cX8_text 53 = .ok (.getfield 12, 3) := by decide +kernel
theorem dX8_text_56 : decode cX8_text 56 = .ok (.getfield 72, 3) := by decide +kernel
theorem dX8_text_59 : decode cX8_text 59 = .ok (.ireturn, 1) := by decide +kernel
theorem dX8_fault_0 : decode cX8_fault 0 = .ok (.aload_n 0, 1) := by decide +kernel
theorem dX8_fault_1 : decode cX8_fault 1 = .ok (.getfield 12, 3) := by decide +kernel
theorem dX8_fault_4 : decode cX8_fault 4 = .ok (.getfield 75, 3) := by decide +kernel
theorem dX8_fault_7 : decode cX8_fault 7 = .ok (.ireturn, 1) := by decide +kernel
theorem dX8_now_0 : decode cX8_now 0 = .ok (.iload_n 1, 1) := by decide +kernel
theorem dX8_now_1 : decode cX8_now 1 = .ok (.tableswitch 111 0 7 #[47, 55, 63, 71, 79, 87, 95, 103], 47) := by decide +kernel
theorem dX8_now_48 : decode cX8_now 48 = .ok (.aload_n 0, 1) := by decide +kernel
theorem dX8_now_49 : decode cX8_now 49 = .ok (.getfield 44, 3) := by decide +kernel
theorem dX8_now_52 : decode cX8_now 52 = .ok (.getfield 78, 3) := by decide +kernel
theorem dX8_now_55 : decode cX8_now 55 = .ok (.ireturn, 1) := by decide +kernel
theorem dX8_now_56 : decode cX8_now 56 = .ok (.aload_n 0, 1) := by decide +kernel
theorem dX8_now_57 : decode cX8_now 57 = .ok (.getfield 44, 3) := by decide +kernel
theorem dX8_now_60 : decode cX8_now 60 = .ok (.getfield 81, 3) := by decide +kernel
theorem dX8_now_63 : decode cX8_now 63 = .ok (.ireturn, 1) := by decide +kernel
theorem dX8_now_64 : decode cX8_now 64 = .ok (.aload_n 0, 1) := by decide +kernel
theorem dX8_now_65 : decode cX8_now 65 = .ok (.getfield 44, 3) := by decide +kernel
theorem dX8_now_68 : decode cX8_now 68 = .ok (.getfield 84, 3) := by decide +kernel
theorem dX8_now_71 : decode cX8_now 71 = .ok (.ireturn, 1) := by decide +kernel
theorem dX8_now_72 : decode cX8_now 72 = .ok (.aload_n 0, 1) := by decide +kernel
theorem dX8_now_73 : decode cX8_now 73 = .ok (.getfield 44, 3) := by decide +kernel
theorem dX8_now_76 : decode cX8_now 76 = .ok (.getfield 87, 3) := by decide +kernel
theorem dX8_now_79 : decode cX8_now 79 = .ok (.ireturn, 1) := by decide +kernel
theorem dX8_now_80 : decode cX8_now 80 = .ok (.aload_n 0, 1) := by decide +kernel
theorem dX8_now_81 : decode cX8_now 81 = .ok (.getfield 44, 3) := by decide +kernel
theorem dX8_now_84 : decode cX8_now 84 = .ok (.getfield 90, 3) := by decide +kernel
theorem dX8_now_87 : decode cX8_now 87 = .ok (.ireturn, 1) := by decide +kernel
theorem dX8_now_88 : decode cX8_now 88 = .ok (.aload_n 0, 1) := by decide +kernel
theorem dX8_now_89 : decode cX8_now 89 = .ok (.getfield 44, 3) := by decide +kernel
theorem dX8_now_92 : decode cX8_now 92 = .ok (.invokevirtual 93, 3) := by decide +kernel
theorem dX8_now_95 : decode cX8_now 95 = .ok (.ireturn, 1) := by decide +kernel
theorem dX8_now_96 : decode cX8_now 96 = .ok (.aload_n 0, 1) := by decide +kernel
theorem dX8_now_97 : decode cX8_now 97 = .ok (.getfield 31, 3) := by decide +kernel
theorem dX8_now_100 : decode cX8_now 100 = .ok (.getfield 97, 3) := by decide +kernel
theorem dX8_now_103 : decode cX8_now 103 = .ok (.ireturn, 1) := by decide +kernel
theorem dX8_now_104 : decode cX8_now 104 = .ok (.aload_n 0, 1) := by decide +kernel
theorem dX8_now_105 : decode cX8_now 105 = .ok (.getfield 20, 3) := by decide +kernel
theorem dX8_now_108 : decode cX8_now 108 = .ok (.getfield 48, 3) := by decide +kernel
theorem dX8_now_111 : decode cX8_now 111 = .ok (.ireturn, 1) := by decide +kernel
theorem dX8_now_112 : decode cX8_now 112 = .ok (.iconst (-1), 1) := by decide +kernel
theorem dX8_now_113 : decode cX8_now 113 = .ok (.ireturn, 1) := by decide +kernel
theorem dX8_item_0 : decode cX8_item 0 = .ok (.aload_n 0, 1) := by decide +kernel
theorem dX8_item_1 : decode cX8_item 1 = .ok (.getfield 44, 3) := by decide +kernel
theorem dX8_item_4 : decode cX8_item 4 = .ok (.iload_n 1, 1) := by decide +kernel
theorem dX8_item_5 : decode cX8_item 5 = .ok (.invokevirtual 100, 3) := by decide +kernel
theorem dX8_item_8 : decode cX8_item 8 = .ok (.ifCond .ne 13, 3) := by decide +kernel
theorem dX8_item_11 : decode cX8_item 11 = .ok (.new 104, 3) := by decide +kernel
theorem dX8_item_14 : decode cX8_item 14 = .ok (.dup, 1) := by decide +kernel
theorem dX8_item_15 : decode cX8_item 15 = .ok (.ldc 106, 2) := by decide +kernel
theorem dX8_item_17 : decode cX8_item 17 = .ok (.invokespecial 108, 3) := by decide +kernel
theorem dX8_item_20 : decode cX8_item 20 = .ok (.athrow, 1) := by decide +kernel
theorem dX8_item_21 : decode cX8_item 21 = .ok (.iload_n 2, 1) := by decide +kernel
theorem dX8_item_22 : decode cX8_item 22 = .ok (.ifCond .lt 22, 3) := by decide +kernel
theorem dX8_item_25 : decode cX8_item 25 = .ok (.iload_n 2, 1) := by decide +kernel
theorem dX8_item_26 : decode cX8_item 26 = .ok (.iconst 5, 1) := by decide +kernel
theorem dX8_item_27 : decode cX8_item 27 = .ok (.if_icmp .ge 17, 3) := by decide +kernel
theorem dX8_item_30 : decode cX8_item 30 = .ok (.aload_n 0, 1) := by decide +kernel
theorem dX8_item_31 : decode cX8_item 31 = .ok (.getfield 44, 3) := by decide +kernel
theorem dX8_item_34 : decode cX8_item 34 = .ok (.getfield 111, 3) := by decide +kernel
theorem dX8_item_37 : decode cX8_item 37 = .ok (.iload_n 1, 1) := by decide +kernel
theorem dX8_item_38 : decode cX8_item 38 = .ok (.iconst 5, 1) := by decide +kernel
theorem dX8_item_39 : decode cX8_item 39 = .ok (.imul, 1) := by decide +kernel
theorem dX8_item_40 : decode cX8_item 40 = .ok (.iload_n 2, 1) := by decide +kernel
theorem dX8_item_41 : decode cX8_item 41 = .ok (.iadd, 1) := by decide +kernel
theorem dX8_item_42 : decode cX8_item 42 = .ok (.iaload, 1) := by decide +kernel
theorem dX8_item_43 : decode cX8_item 43 = .ok (.ireturn, 1) := by decide +kernel
theorem dX8_item_44 : decode cX8_item 44 = .ok (.iload_n 2, 1) := by decide +kernel
theorem dX8_item_45 : decode cX8_item 45 = .ok (.iconst 5, 1) := by decide +kernel
theorem dX8_item_46 : decode cX8_item 46 = .ok (.if_icmp .ne 12, 3) := by decide +kernel
theorem dX8_item_49 : decode cX8_item 49 = .ok (.aload_n 0, 1) := by decide +kernel
theorem dX8_item_50 : decode cX8_item 50 = .ok (.getfield 44, 3) := by decide +kernel
theorem dX8_item_53 : decode cX8_item 53 = .ok (.iload_n 1, 1) := by decide +kernel
theorem dX8_item_54 : decode cX8_item 54 = .ok (.invokevirtual 115, 3) := by decide +kernel
theorem dX8_item_57 : decode cX8_item 57 = .ok (.ireturn, 1) := by decide +kernel
theorem dX8_item_58 : decode cX8_item 58 = .ok (.iload_n 2, 1) := by decide +kernel
theorem dX8_item_59 : decode cX8_item 59 = .ok (.bipush 100, 2) := by decide +kernel
theorem dX8_item_61 : decode cX8_item 61 = .ok (.if_icmp .lt 10, 3) := by decide +kernel
theorem dX8_item_64 : decode cX8_item 64 = .ok (.iload_n 2, 1) := by decide +kernel
theorem dX8_item_65 : decode cX8_item 65 = .ok (.sipush 139, 3) := by decide +kernel
theorem dX8_item_68 : decode cX8_item 68 = .ok (.if_icmp .le 13, 3) := by decide +kernel
theorem dX8_item_71 : decode cX8_item 71 = .ok (.new 104, 3) := by decide +kernel
theorem dX8_item_74 : decode cX8_item 74 = .ok (.dup, 1) := by decide +kernel
theorem dX8_item_75 : decode cX8_item 75 = .ok (.ldc 119, 2) := by decide +kernel
theorem dX8_item_77 : decode cX8_item 77 = .ok (.invokespecial 108, 3) := by decide +kernel
theorem dX8_item_80 : decode cX8_item 80 = .ok (.athrow, 1) := by decide +kernel
theorem dX8_item_81 : decode cX8_item 81 = .ok (.aload_n 0, 1) := by decide +kernel
theorem dX8_item_82 : decode cX8_item 82 = .ok (.getfield 44, 3) := by decide +kernel
theorem dX8_item_85 : decode cX8_item 85 = .ok (.iload_n 1, 1) := by decide +kernel
theorem dX8_item_86 : decode cX8_item 86 = .ok (.iload_n 2, 1) := by decide +kernel
theorem dX8_item_87 : decode cX8_item 87 = .ok (.bipush 100, 2) := by decide +kernel
theorem dX8_item_89 : decode cX8_item 89 = .ok (.isub, 1) := by decide +kernel
theorem dX8_item_90 : decode cX8_item 90 = .ok (.invokevirtual 121, 3) := by decide +kernel
theorem dX8_item_93 : decode cX8_item 93 = .ok (.ireturn, 1) := by decide +kernel
theorem dX8_loss_0 : decode cX8_loss 0 = .ok (.aload_n 0, 1) := by decide +kernel
theorem dX8_loss_1 : decode cX8_loss 1 = .ok (.getfield 44, 3) := by decide +kernel
theorem dX8_loss_4 : decode cX8_loss 4 = .ok (.iload_n 1, 1) := by decide +kernel
theorem dX8_loss_5 : decode cX8_loss 5 = .ok (.invokevirtual 125, 3) := by decide +kernel
theorem dX8_loss_8 : decode cX8_loss 8 = .ok (.ifCond .ne 13, 3) := by decide +kernel
theorem dX8_loss_11 : decode cX8_loss 11 = .ok (.new 104, 3) := by decide +kernel
theorem dX8_loss_14 : decode cX8_loss 14 = .ok (.dup, 1) := by decide +kernel
theorem dX8_loss_15 : decode cX8_loss 15 = .ok (.ldc 128, 2) := by decide +kernel
theorem dX8_loss_17 : decode cX8_loss 17 = .ok (.invokespecial 108, 3) := by decide +kernel
theorem dX8_loss_20 : decode cX8_loss 20 = .ok (.athrow, 1) := by decide +kernel
theorem dX8_loss_21 : decode cX8_loss 21 = .ok (.iload_n 2, 1) := by decide +kernel
theorem dX8_loss_22 : decode cX8_loss 22 = .ok (.ifCond .lt 8, 3) := by decide +kernel
theorem dX8_loss_25 : decode cX8_loss 25 = .ok (.iload_n 2, 1) := by decide +kernel
theorem dX8_loss_26 : decode cX8_loss 26 = .ok (.iconst 4, 1) := by decide +kernel
theorem dX8_loss_27 : decode cX8_loss 27 = .ok (.if_icmp .lt 13, 3) := by decide +kernel
theorem dX8_loss_30 : decode cX8_loss 30 = .ok (.new 104, 3) := by decide +kernel
theorem dX8_loss_33 : decode cX8_loss 33 = .ok (.dup, 1) := by decide +kernel
theorem dX8_loss_34 : decode cX8_loss 34 = .ok (.ldc 130, 2) := by decide +kernel
theorem dX8_loss_36 : decode cX8_loss 36 = .ok (.invokespecial 108, 3) := by decide +kernel
theorem dX8_loss_39 : decode cX8_loss 39 = .ok (.athrow, 1) := by decide +kernel
theorem dX8_loss_40 : decode cX8_loss 40 = .ok (.aload_n 0, 1) := by decide +kernel
theorem dX8_loss_41 : decode cX8_loss 41 = .ok (.getfield 44, 3) := by decide +kernel
theorem dX8_loss_44 : decode cX8_loss 44 = .ok (.getfield 132, 3) := by decide +kernel
theorem dX8_loss_47 : decode cX8_loss 47 = .ok (.iload_n 1, 1) := by decide +kernel
theorem dX8_loss_48 : decode cX8_loss 48 = .ok (.iconst 4, 1) := by decide +kernel
theorem dX8_loss_49 : decode cX8_loss 49 = .ok (.imul, 1) := by decide +kernel
theorem dX8_loss_50 : decode cX8_loss 50 = .ok (.iload_n 2, 1) := by decide +kernel
theorem dX8_loss_51 : decode cX8_loss 51 = .ok (.iadd, 1) := by decide +kernel
theorem dX8_loss_52 : decode cX8_loss 52 = .ok (.iaload, 1) := by decide +kernel
theorem dX8_loss_53 : decode cX8_loss 53 = .ok (.ireturn, 1) := by decide +kernel
theorem dX8_rate_0 : decode cX8_rate 0 = .ok (.aload_n 0, 1) := by decide +kernel
theorem dX8_rate_1 : decode cX8_rate 1 = .ok (.getfield 44, 3) := by decide +kernel
theorem dX8_rate_4 : decode cX8_rate 4 = .ok (.iload_n 1, 1) := by decide +kernel
theorem dX8_rate_5 : decode cX8_rate 5 = .ok (.invokevirtual 135, 3) := by decide +kernel
theorem dX8_rate_8 : decode cX8_rate 8 = .ok (.ifCond .eq 13, 3) := by decide +kernel
theorem dX8_rate_11 : decode cX8_rate 11 = .ok (.iload_n 2, 1) := by decide +kernel
theorem dX8_rate_12 : decode cX8_rate 12 = .ok (.ifCond .lt 9, 3) := by decide +kernel
theorem dX8_rate_15 : decode cX8_rate 15 = .ok (.iload_n 2, 1) := by decide +kernel
theorem dX8_rate_16 : decode cX8_rate 16 = .ok (.bipush 39, 2) := by decide +kernel
theorem dX8_rate_18 : decode cX8_rate 18 = .ok (.if_icmp .le 5, 3) := by decide +kernel
theorem dX8_rate_21 : decode cX8_rate 21 = .ok (.iconst (-1), 1) := by decide +kernel
theorem dX8_rate_22 : decode cX8_rate 22 = .ok (.ireturn, 1) := by decide +kernel
theorem dX8_rate_23 : decode cX8_rate 23 = .ok (.aload_n 0, 1) := by decide +kernel
theorem dX8_rate_24 : decode cX8_rate 24 = .ok (.getfield 44, 3) := by decide +kernel
theorem dX8_rate_27 : decode cX8_rate 27 = .ok (.getfield 138, 3) := by decide +kernel
theorem dX8_rate_30 : decode cX8_rate 30 = .ok (.iload_n 1, 1) := by decide +kernel
theorem dX8_rate_31 : decode cX8_rate 31 = .ok (.bipush 40, 2) := by decide +kernel
theorem dX8_rate_33 : decode cX8_rate 33 = .ok (.imul, 1) := by decide +kernel
theorem dX8_rate_34 : decode cX8_rate 34 = .ok (.iload_n 2, 1) := by decide +kernel
theorem dX8_rate_35 : decode cX8_rate 35 = .ok (.iadd, 1) := by decide +kernel
theorem dX8_rate_36 : decode cX8_rate 36 = .ok (.iaload, 1) := by decide +kernel
theorem dX8_rate_37 : decode cX8_rate 37 = .ok (.ireturn, 1) := by decide +kernel
theorem dX8_covered_0 : decode cX8_covered 0 = .ok (.aload_n 0, 1) := by decide +kernel
theorem dX8_covered_1 : decode cX8_covered 1 = .ok (.iload_n 1, 1) := by decide +kernel
theorem dX8_covered_2 : decode cX8_covered 2 = .ok (.iload_n 2, 1) := by decide +kernel
theorem dX8_covered_3 : decode cX8_covered 3 = .ok (.invokevirtual 141, 3) := by decide +kernel
theorem dX8_covered_6 : decode cX8_covered 6 = .ok (.ifCond .ne 5, 3) := by decide +kernel
theorem dX8_covered_9 : decode cX8_covered 9 = .ok (.iconst (-1), 1) := by decide +kernel
theorem dX8_covered_10 : decode cX8_covered 10 = .ok (.ireturn, 1) := by decide +kernel
theorem dX8_covered_11 : decode cX8_covered 11 = .ok (.aload_n 0, 1) := by decide +kernel
theorem dX8_covered_12 : decode cX8_covered 12 = .ok (.getfield 24, 3) := by decide +kernel
theorem dX8_covered_15 : decode cX8_covered 15 = .ok (.aload_n 0, 1) := by decide +kernel
theorem dX8_covered_16 : decode cX8_covered 16 = .ok (.getfield 44, 3) := by decide +kernel
theorem dX8_covered_19 : decode cX8_covered 19 = .ok (.iload_n 1, 1) := by decide +kernel
theorem dX8_covered_20 : decode cX8_covered 20 = .ok (.invokevirtual 145, 3) := by decide +kernel
theorem dX8_covered_23 : decode cX8_covered 23 = .ok (.iload_n 3, 1) := by decide +kernel
theorem dX8_covered_24 : decode cX8_covered 24 = .ok (.tableswitch 110 0 5 #[40, 50, 60, 70, 80, 100], 40) := by decide +kernel
theorem dX8_covered_64 : decode cX8_covered 64 = .ok (.aload_n 0, 1) := by decide +kernel
theorem dX8_covered_65 : decode cX8_covered 65 = .ok (.getfield 24, 3) := by decide +kernel
theorem dX8_covered_68 : decode cX8_covered 68 = .ok (.getfield 149, 3) := by decide +kernel
theorem dX8_covered_71 : decode cX8_covered 71 = .ok (.iload_n 2, 1) := by decide +kernel
theorem dX8_covered_72 : decode cX8_covered 72 = .ok (.iaload, 1) := by decide +kernel
theorem dX8_covered_73 : decode cX8_covered 73 = .ok (.ireturn, 1) := by decide +kernel
theorem dX8_covered_74 : decode cX8_covered 74 = .ok (.aload_n 0, 1) := by decide +kernel
theorem dX8_covered_75 : decode cX8_covered 75 = .ok (.getfield 24, 3) := by decide +kernel
theorem dX8_covered_78 : decode cX8_covered 78 = .ok (.getfield 152, 3) := by decide +kernel
theorem dX8_covered_81 : decode cX8_covered 81 = .ok (.iload_n 2, 1) := by decide +kernel
theorem dX8_covered_82 : decode cX8_covered 82 = .ok (.iaload, 1) := by decide +kernel
theorem dX8_covered_83 : decode cX8_covered 83 = .ok (.ireturn, 1) := by decide +kernel
theorem dX8_covered_84 : decode cX8_covered 84 = .ok (.aload_n 0, 1) := by decide +kernel
theorem dX8_covered_85 : decode cX8_covered 85 = .ok (.getfield 24, 3) := by decide +kernel
theorem dX8_covered_88 : decode cX8_covered 88 = .ok (.getfield 155, 3) := by decide +kernel
theorem dX8_covered_91 : decode cX8_covered 91 = .ok (.iload_n 2, 1) := by decide +kernel
theorem dX8_covered_92 : decode cX8_covered 92 = .ok (.iaload, 1) := by decide +kernel
theorem dX8_covered_93 : decode cX8_covered 93 = .ok (.ireturn, 1) := by decide +kernel
theorem dX8_covered_94 : decode cX8_covered 94 = .ok (.aload_n 0, 1) := by decide +kernel
theorem dX8_covered_95 : decode cX8_covered 95 = .ok (.getfield 24, 3) := by decide +kernel
theorem dX8_covered_98 : decode cX8_covered 98 = .ok (.getfield 158, 3) := by decide +kernel
theorem dX8_covered_101 : decode cX8_covered 101 = .ok (.iload_n 2, 1) := by decide +kernel
theorem dX8_covered_102 : decode cX8_covered 102 = .ok (.iaload, 1) := by decide +kernel
theorem dX8_covered_103 : decode cX8_covered 103 = .ok (.ireturn, 1) := by decide +kernel
theorem dX8_covered_104 : decode cX8_covered 104 = .ok (.aload_n 0, 1) := by decide +kernel
theorem dX8_covered_105 : decode cX8_covered 105 = .ok (.getfield 24, 3) := by decide +kernel
theorem dX8_covered_108 : decode cX8_covered 108 = .ok (.getfield 161, 3) := by decide +kernel
theorem dX8_covered_111 : decode cX8_covered 111 = .ok (.iload_n 2, 1) := by decide +kernel
theorem dX8_covered_112 : decode cX8_covered 112 = .ok (.iaload, 1) := by decide +kernel
theorem dX8_covered_113 : decode cX8_covered 113 = .ok (.aload_n 0, 1) := by decide +kernel
theorem dX8_covered_114 : decode cX8_covered 114 = .ok (.getfield 24, 3) := by decide +kernel
theorem dX8_covered_117 : decode cX8_covered 117 = .ok (.getfield 158, 3) := by decide +kernel
theorem dX8_covered_120 : decode cX8_covered 120 = .ok (.iload_n 2, 1) := by decide +kernel
theorem dX8_covered_121 : decode cX8_covered 121 = .ok (.iaload, 1) := by decide +kernel
theorem dX8_covered_122 : decode cX8_covered 122 = .ok (.isub, 1) := by decide +kernel
theorem dX8_covered_123 : decode cX8_covered 123 = .ok (.ireturn, 1) := by decide +kernel
theorem dX8_covered_124 : decode cX8_covered 124 = .ok (.aload_n 0, 1) := by decide +kernel
theorem dX8_covered_125 : decode cX8_covered 125 = .ok (.getfield 24, 3) := by decide +kernel
theorem dX8_covered_128 : decode cX8_covered 128 = .ok (.getfield 164, 3) := by decide +kernel
theorem dX8_covered_131 : decode cX8_covered 131 = .ok (.iload_n 2, 1) := by decide +kernel
theorem dX8_covered_132 : decode cX8_covered 132 = .ok (.iaload, 1) := by decide +kernel
theorem dX8_covered_133 : decode cX8_covered 133 = .ok (.ireturn, 1) := by decide +kernel
theorem dX8_covered_134 : decode cX8_covered 134 = .ok (.iconst (-1), 1) := by decide +kernel
theorem dX8_covered_135 : decode cX8_covered 135 = .ok (.ireturn, 1) := by decide +kernel
theorem dX8_balance_0 : decode cX8_balance 0 = .ok (.iload_n 1, 1) := by decide +kernel
theorem dX8_balance_1 : decode cX8_balance 1 = .ok (.iconst (-1), 1) := by decide +kernel
theorem dX8_balance_2 : decode cX8_balance 2 = .ok (.if_icmp .ne 18, 3) := by decide +kernel
theorem dX8_balance_5 : decode cX8_balance 5 = .ok (.iload_n 2, 1) := by decide +kernel
theorem dX8_balance_6 : decode cX8_balance 6 = .ok (.ifCond .lt 14, 3) := by decide +kernel
theorem dX8_balance_9 : decode cX8_balance 9 = .ok (.iload_n 2, 1) := by decide +kernel
theorem dX8_balance_10 : decode cX8_balance 10 = .ok (.iconst 4, 1) := by decide +kernel
theorem dX8_balance_11 : decode cX8_balance 11 = .ok (.if_icmp .gt 9, 3) := by decide +kernel
theorem dX8_balance_14 : decode cX8_balance 14 = .ok (.aload_n 0, 1) := by decide +kernel
theorem dX8_balance_15 : decode cX8_balance 15 = .ok (.iload_n 2, 1) := by decide +kernel
theorem dX8_balance_16 : decode cX8_balance 16 = .ok (.invokevirtual 167, 3) := by decide +kernel
theorem dX8_balance_19 : decode cX8_balance 19 = .ok (.ireturn, 1) := by decide +kernel
theorem dX8_balance_20 : decode cX8_balance 20 = .ok (.aload_n 0, 1) := by decide +kernel
theorem dX8_balance_21 : decode cX8_balance 21 = .ok (.getfield 44, 3) := by decide +kernel
theorem dX8_balance_24 : decode cX8_balance 24 = .ok (.iload_n 1, 1) := by decide +kernel
theorem dX8_balance_25 : decode cX8_balance 25 = .ok (.invokevirtual 135, 3) := by decide +kernel
theorem dX8_balance_28 : decode cX8_balance 28 = .ok (.ifCond .eq 12, 3) := by decide +kernel
theorem dX8_balance_31 : decode cX8_balance 31 = .ok (.iload_n 2, 1) := by decide +kernel
theorem dX8_balance_32 : decode cX8_balance 32 = .ok (.ifCond .lt 8, 3) := by decide +kernel
theorem dX8_balance_35 : decode cX8_balance 35 = .ok (.iload_n 2, 1) := by decide +kernel
theorem dX8_balance_36 : decode cX8_balance 36 = .ok (.iconst 3, 1) := by decide +kernel
theorem dX8_balance_37 : decode cX8_balance 37 = .ok (.if_icmp .le 6, 3) := by decide +kernel
theorem dX8_balance_40 : decode cX8_balance 40 = .ok (.ldc 170, 2) := by decide +kernel
theorem dX8_balance_42 : decode cX8_balance 42 = .ok (.ireturn, 1) := by decide +kernel
theorem dX8_balance_43 : decode cX8_balance 43 = .ok (.aload_n 0, 1) := by decide +kernel
theorem dX8_balance_44 : decode cX8_balance 44 = .ok (.iload_n 1, 1) := by decide +kernel
theorem dX8_balance_45 : decode cX8_balance 45 = .ok (.iload_n 2, 1) := by decide +kernel
theorem dX8_balance_46 : decode cX8_balance 46 = .ok (.invokevirtual 171, 3) := by decide +kernel
theorem dX8_balance_49 : decode cX8_balance 49 = .ok (.ireturn, 1) := by decide +kernel
theorem dX8_closing_0 : decode cX8_closing 0 = .ok (.aload_n 0, 1) := by decide +kernel
theorem dX8_closing_1 : decode cX8_closing 1 = .ok (.getfield 44, 3) := by decide +kernel
theorem dX8_closing_4 : decode cX8_closing 4 = .ok (.iload_n 1, 1) := by decide +kernel
theorem dX8_closing_5 : decode cX8_closing 5 = .ok (.invokevirtual 135, 3) := by decide +kernel
theorem dX8_closing_8 : decode cX8_closing 8 = .ok (.ifCond .eq 24, 3) := by decide +kernel
theorem dX8_closing_11 : decode cX8_closing 11 = .ok (.iload_n 2, 1) := by decide +kernel
theorem dX8_closing_12 : decode cX8_closing 12 = .ok (.ifCond .lt 20, 3) := by decide +kernel
theorem dX8_closing_15 : decode cX8_closing 15 = .ok (.iload_n 2, 1) := by decide +kernel
theorem dX8_closing_16 : decode cX8_closing 16 = .ok (.aload_n 0, 1) := by decide +kernel
theorem dX8_closing_17 : decode cX8_closing 17 = .ok (.getfield 44, 3) := by decide +kernel
theorem dX8_closing_20 : decode cX8_closing 20 = .ok (.getfield 78, 3) := by decide +kernel
theorem dX8_closing_23 : decode cX8_closing 23 = .ok (.if_icmp .ge 9, 3) := by decide +kernel
theorem dX8_closing_26 : decode cX8_closing 26 = .ok (.iload_n 2, 1) := by decide +kernel
theorem dX8_closing_27 : decode cX8_closing 27 = .ok (.bipush 39, 2) := by decide +kernel
theorem dX8_closing_29 : decode cX8_closing 29 = .ok (.if_icmp .lt 6, 3) := by decide +kernel
theorem dX8_closing_32 : decode cX8_closing 32 = .ok (.ldc 170, 2) := by decide +kernel
theorem dX8_closing_34 : decode cX8_closing 34 = .ok (.ireturn, 1) := by decide +kernel
theorem dX8_closing_35 : decode cX8_closing 35 = .ok (.aload_n 0, 1) := by decide +kernel
theorem dX8_closing_36 : decode cX8_closing 36 = .ok (.getfield 37, 3) := by decide +kernel
theorem dX8_closing_39 : decode cX8_closing 39 = .ok (.iload_n 2, 1) := by decide +kernel
theorem dX8_closing_40 : decode cX8_closing 40 = .ok (.iconst 3, 1) := by decide +kernel
theorem dX8_closing_41 : decode cX8_closing 41 = .ok (.imul, 1) := by decide +kernel
theorem dX8_closing_42 : decode cX8_closing 42 = .ok (.iload_n 1, 1) := by decide +kernel
theorem dX8_closing_43 : decode cX8_closing 43 = .ok (.iadd, 1) := by decide +kernel
theorem dX8_closing_44 : decode cX8_closing 44 = .ok (.aaload, 1) := by decide +kernel
theorem dX8_closing_45 : decode cX8_closing 45 = .ok (.astore 4, 2) := by decide +kernel
theorem dX8_closing_47 : decode cX8_closing 47 = .ok (.aload 4, 2) := by decide +kernel
theorem dX8_closing_49 : decode cX8_closing 49 = .ok (.ifnull 13, 3) := by decide +kernel
theorem dX8_closing_52 : decode cX8_closing 52 = .ok (.iload_n 3, 1) := by decide +kernel
theorem dX8_closing_53 : decode cX8_closing 53 = .ok (.ifCond .lt 9, 3) := by decide +kernel
theorem dX8_closing_56 : decode cX8_closing 56 = .ok (.iload_n 3, 1) := by decide +kernel
theorem dX8_closing_57 : decode cX8_closing 57 = .ok (.bipush 7, 2) := by decide +kernel
theorem dX8_closing_59 : decode cX8_closing 59 = .ok (.if_icmp .lt 6, 3) := by decide +kernel
theorem dX8_closing_62 : decode cX8_closing 62 = .ok (.ldc 170, 2) := by decide +kernel
theorem dX8_closing_64 : decode cX8_closing 64 = .ok (.ireturn, 1) := by decide +kernel
theorem dX8_closing_65 : decode cX8_closing 65 = .ok (.aload 4, 2) := by decide +kernel
theorem dX8_closing_67 : decode cX8_closing 67 = .ok (.getfield 174, 3) := by decide +kernel
theorem dX8_closing_70 : decode cX8_closing 70 = .ok (.iload_n 3, 1) := by decide +kernel
theorem dX8_closing_71 : decode cX8_closing 71 = .ok (.iaload, 1) := by decide +kernel
theorem dX8_closing_72 : decode cX8_closing 72 = .ok (.ireturn, 1) := by decide +kernel
theorem dX8_would_0 : decode cX8_would 0 = .ok (.aload_n 0, 1) := by decide +kernel
theorem dX8_would_1 : decode cX8_would 1 = .ok (.iload_n 1, 1) := by decide +kernel
theorem dX8_would_2 : decode cX8_would 2 = .ok (.iload_n 2, 1) := by decide +kernel
theorem dX8_would_3 : decode cX8_would 3 = .ok (.iload_n 3, 1) := by decide +kernel
theorem dX8_would_4 : decode cX8_would 4 = .ok (.invokevirtual 177, 3) := by decide +kernel
theorem dX8_would_7 : decode cX8_would 7 = .ok (.ifCond .ne 6, 3) := by decide +kernel
theorem dX8_would_10 : decode cX8_would 10 = .ok (.ldc 170, 2) := by decide +kernel
theorem dX8_would_12 : decode cX8_would 12 = .ok (.ireturn, 1) := by decide +kernel
theorem dX8_would_13 : decode cX8_would 13 = .ok (.aload_n 0, 1) := by decide +kernel
theorem dX8_would_14 : decode cX8_would 14 = .ok (.getfield 24, 3) := by decide +kernel
theorem dX8_would_17 : decode cX8_would 17 = .ok (.aload_n 0, 1) := by decide +kernel
theorem dX8_would_18 : decode cX8_would 18 = .ok (.getfield 44, 3) := by decide +kernel
theorem dX8_would_21 : decode cX8_would 21 = .ok (.iload_n 1, 1) := by decide +kernel
theorem dX8_would_22 : decode cX8_would 22 = .ok (.invokevirtual 145, 3) := by decide +kernel
theorem dX8_would_25 : decode cX8_would 25 = .ok (.aload_n 0, 1) := by decide +kernel
theorem dX8_would_26 : decode cX8_would 26 = .ok (.getfield 24, 3) := by decide +kernel
theorem dX8_would_29 : decode cX8_would 29 = .ok (.iload_n 2, 1) := by decide +kernel
theorem dX8_would_30 : decode cX8_would 30 = .ok (.iload_n 3, 1) := by decide +kernel
theorem dX8_would_31 : decode cX8_would 31 = .ok (.invokevirtual 181, 3) := by decide +kernel
theorem dX8_would_34 : decode cX8_would 34 = .ok (.aload_n 0, 1) := by decide +kernel
theorem dX8_would_35 : decode cX8_would 35 = .ok (.getfield 24, 3) := by decide +kernel
theorem dX8_would_38 : decode cX8_would 38 = .ok (.invokevirtual 185, 3) := by decide +kernel
theorem dX8_would_41 : decode cX8_would 41 = .ok (.ireturn, 1) := by decide +kernel
theorem dX8_needs_0 : decode cX8_needs 0 = .ok (.aload_n 0, 1) := by decide +kernel
theorem dX8_needs_1 : decode cX8_needs 1 = .ok (.iload_n 1, 1) := by decide +kernel
theorem dX8_needs_2 : decode cX8_needs 2 = .ok (.iload_n 2, 1) := by decide +kernel
theorem dX8_needs_3 : decode cX8_needs 3 = .ok (.invokevirtual 141, 3) := by decide +kernel
theorem dX8_needs_6 : decode cX8_needs 6 = .ok (.ifCond .ne 5, 3) := by decide +kernel
theorem dX8_needs_9 : decode cX8_needs 9 = .ok (.iconst (-1), 1) := by decide +kernel
theorem dX8_needs_10 : decode cX8_needs 10 = .ok (.ireturn, 1) := by decide +kernel
theorem dX8_needs_11 : decode cX8_needs 11 = .ok (.aload_n 0, 1) := by decide +kernel
theorem dX8_needs_12 : decode cX8_needs 12 = .ok (.getfield 24, 3) := by decide +kernel
theorem dX8_needs_15 : decode cX8_needs 15 = .ok (.aload_n 0, 1) := by decide +kernel
theorem dX8_needs_16 : decode cX8_needs 16 = .ok (.getfield 44, 3) := by decide +kernel
theorem dX8_needs_19 : decode cX8_needs 19 = .ok (.iload_n 1, 1) := by decide +kernel
theorem dX8_needs_20 : decode cX8_needs 20 = .ok (.invokevirtual 145, 3) := by decide +kernel
theorem dX8_needs_23 : decode cX8_needs 23 = .ok (.aload_n 0, 1) := by decide +kernel
theorem dX8_needs_24 : decode cX8_needs 24 = .ok (.getfield 24, 3) := by decide +kernel
theorem dX8_needs_27 : decode cX8_needs 27 = .ok (.invokevirtual 188, 3) := by decide +kernel
theorem dX8_needs_30 : decode cX8_needs 30 = .ok (.ifCond .ne 5, 3) := by decide +kernel
theorem dX8_needs_33 : decode cX8_needs 33 = .ok (.iconst 0, 1) := by decide +kernel
theorem dX8_needs_34 : decode cX8_needs 34 = .ok (.ireturn, 1) := by decide +kernel
theorem dX8_needs_35 : decode cX8_needs 35 = .ok (.aload_n 0, 1) := by decide +kernel
theorem dX8_needs_36 : decode cX8_needs 36 = .ok (.iload_n 1, 1) := by decide +kernel
theorem dX8_needs_37 : decode cX8_needs 37 = .ok (.iload_n 2, 1) := by decide +kernel
theorem dX8_needs_38 : decode cX8_needs 38 = .ok (.invokevirtual 191, 3) := by decide +kernel
theorem dX8_needs_41 : decode cX8_needs 41 = .ok (.ireturn, 1) := by decide +kernel
theorem dX8_enact_0 : decode cX8_enact 0 = .ok (.aload_n 0, 1) := by decide +kernel
theorem dX8_enact_1 : decode cX8_enact 1 = .ok (.iload_n 1, 1) := by decide +kernel
theorem dX8_enact_2 : decode cX8_enact 2 = .ok (.iload_n 2, 1) := by decide +kernel
theorem dX8_enact_3 : decode cX8_enact 3 = .ok (.iload_n 3, 1) := by decide +kernel
theorem dX8_enact_4 : decode cX8_enact 4 = .ok (.invokevirtual 177, 3) := by decide +kernel
theorem dX8_enact_7 : decode cX8_enact 7 = .ok (.ifCond .ne 5, 3) := by decide +kernel
theorem dX8_enact_10 : decode cX8_enact 10 = .ok (.iconst (-1), 1) := by decide +kernel
theorem dX8_enact_11 : decode cX8_enact 11 = .ok (.ireturn, 1) := by decide +kernel
theorem dX8_enact_12 : decode cX8_enact 12 = .ok (.aload_n 0, 1) := by decide +kernel
theorem dX8_enact_13 : decode cX8_enact 13 = .ok (.getfield 31, 3) := by decide +kernel
theorem dX8_enact_16 : decode cX8_enact 16 = .ok (.aload_n 0, 1) := by decide +kernel
theorem dX8_enact_17 : decode cX8_enact 17 = .ok (.getfield 44, 3) := by decide +kernel
theorem dX8_enact_20 : decode cX8_enact 20 = .ok (.invokevirtual 194, 3) := by decide +kernel
theorem dX8_enact_23 : decode cX8_enact 23 = .ok (.aload_n 0, 1) := by decide +kernel
theorem dX8_enact_24 : decode cX8_enact 24 = .ok (.getfield 44, 3) := by decide +kernel
theorem dX8_enact_27 : decode cX8_enact 27 = .ok (.getfield 138, 3) := by decide +kernel
theorem dX8_enact_30 : decode cX8_enact 30 = .ok (.iload_n 1, 1) := by decide +kernel
theorem dX8_enact_31 : decode cX8_enact 31 = .ok (.bipush 40, 2) := by decide +kernel
theorem dX8_enact_33 : decode cX8_enact 33 = .ok (.imul, 1) := by decide +kernel
theorem dX8_enact_34 : decode cX8_enact 34 = .ok (.iload_n 2, 1) := by decide +kernel
theorem dX8_enact_35 : decode cX8_enact 35 = .ok (.iadd, 1) := by decide +kernel
theorem dX8_enact_36 : decode cX8_enact 36 = .ok (.iaload, 1) := by decide +kernel
theorem dX8_enact_37 : decode cX8_enact 37 = .ok (.istore 4, 2) := by decide +kernel
theorem dX8_enact_39 : decode cX8_enact 39 = .ok (.aload_n 0, 1) := by decide +kernel
theorem dX8_enact_40 : decode cX8_enact 40 = .ok (.getfield 44, 3) := by decide +kernel
theorem dX8_enact_43 : decode cX8_enact 43 = .ok (.iload_n 1, 1) := by decide +kernel
theorem dX8_enact_44 : decode cX8_enact 44 = .ok (.iload_n 2, 1) := by decide +kernel
theorem dX8_enact_45 : decode cX8_enact 45 = .ok (.iload_n 3, 1) := by decide +kernel
theorem dX8_enact_46 : decode cX8_enact 46 = .ok (.invokevirtual 198, 3) := by decide +kernel
theorem dX8_enact_49 : decode cX8_enact 49 = .ok (.iload 4, 2) := by decide +kernel
theorem dX8_enact_51 : decode cX8_enact 51 = .ok (.ireturn, 1) := by decide +kernel
theorem dX8_expect_0 : decode cX8_expect 0 = .ok (.aload_n 0, 1) := by decide +kernel
theorem dX8_expect_1 : decode cX8_expect 1 = .ok (.iload_n 1, 1) := by decide +kernel
theorem dX8_expect_2 : decode cX8_expect 2 = .ok (.iload_n 2, 1) := by decide +kernel
theorem dX8_expect_3 : decode cX8_expect 3 = .ok (.invokevirtual 202, 3) := by decide +kernel
theorem dX8_expect_6 : decode cX8_expect 6 = .ok (.ifCond .eq 13, 3) := by decide +kernel
theorem dX8_expect_9 : decode cX8_expect 9 = .ok (.iload_n 3, 1) := by decide +kernel
theorem dX8_expect_10 : decode cX8_expect 10 = .ok (.ifCond .lt 9, 3) := by decide +kernel
theorem dX8_expect_13 : decode cX8_expect 13 = .ok (.iload_n 3, 1) := by decide +kernel
theorem dX8_expect_14 : decode cX8_expect 14 = .ok (.ldc 205, 2) := by decide +kernel
theorem dX8_expect_16 : decode cX8_expect 16 = .ok (.if_icmp .le 5, 3) := by decide +kernel
theorem dX8_expect_19 : decode cX8_expect 19 = .ok (.iconst (-1), 1) := by decide +kernel
theorem dX8_expect_20 : decode cX8_expect 20 = .ok (.ireturn, 1) := by decide +kernel
theorem dX8_expect_21 : decode cX8_expect 21 = .ok (.aload_n 0, 1) := by decide +kernel
theorem dX8_expect_22 : decode cX8_expect 22 = .ok (.getfield 31, 3) := by decide +kernel
theorem dX8_expect_25 : decode cX8_expect 25 = .ok (.aload_n 0, 1) := by decide +kernel
theorem dX8_expect_26 : decode cX8_expect 26 = .ok (.getfield 44, 3) := by decide +kernel
theorem dX8_expect_29 : decode cX8_expect 29 = .ok (.invokevirtual 194, 3) := by decide +kernel
theorem dX8_expect_32 : decode cX8_expect 32 = .ok (.aload_n 0, 1) := by decide +kernel
theorem dX8_expect_33 : decode cX8_expect 33 = .ok (.getfield 44, 3) := by decide +kernel
theorem dX8_expect_36 : decode cX8_expect 36 = .ok (.getfield 206, 3) := by decide +kernel
theorem dX8_expect_39 : decode cX8_expect 39 = .ok (.iload_n 1, 1) := by decide +kernel
theorem dX8_expect_40 : decode cX8_expect 40 = .ok (.bipush 40, 2) := by decide +kernel
theorem dX8_expect_42 : decode cX8_expect 42 = .ok (.imul, 1) := by decide +kernel
theorem dX8_expect_43 : decode cX8_expect 43 = .ok (.iload_n 2, 1) := by decide +kernel
theorem dX8_expect_44 : decode cX8_expect 44 = .ok (.iadd, 1) := by decide +kernel
theorem dX8_expect_45 : decode cX8_expect 45 = .ok (.iaload, 1) := by decide +kernel
theorem dX8_expect_46 : decode cX8_expect 46 = .ok (.istore 4, 2) := by decide +kernel
theorem dX8_expect_48 : decode cX8_expect 48 = .ok (.aload_n 0, 1) := by decide +kernel
theorem dX8_expect_49 : decode cX8_expect 49 = .ok (.getfield 44, 3) := by decide +kernel
theorem dX8_expect_52 : decode cX8_expect 52 = .ok (.getfield 206, 3) := by decide +kernel
theorem dX8_expect_55 : decode cX8_expect 55 = .ok (.iload_n 1, 1) := by decide +kernel
theorem dX8_expect_56 : decode cX8_expect 56 = .ok (.bipush 40, 2) := by decide +kernel
theorem dX8_expect_58 : decode cX8_expect 58 = .ok (.imul, 1) := by decide +kernel
theorem dX8_expect_59 : decode cX8_expect 59 = .ok (.iload_n 2, 1) := by decide +kernel
theorem dX8_expect_60 : decode cX8_expect 60 = .ok (.iadd, 1) := by decide +kernel
theorem dX8_expect_61 : decode cX8_expect 61 = .ok (.iload_n 3, 1) := by decide +kernel
theorem dX8_expect_62 : decode cX8_expect 62 = .ok (.iastore, 1) := by decide +kernel
theorem dX8_expect_63 : decode cX8_expect 63 = .ok (.iload 4, 2) := by decide +kernel
theorem dX8_expect_65 : decode cX8_expect 65 = .ok (.ireturn, 1) := by decide +kernel
theorem dX8_arises_0 : decode cX8_arises 0 = .ok (.aload_n 0, 1) := by decide +kernel
theorem dX8_arises_1 : decode cX8_arises 1 = .ok (.iload_n 1, 1) := by decide +kernel
theorem dX8_arises_2 : decode cX8_arises 2 = .ok (.iload 4, 2) := by decide +kernel
theorem dX8_arises_4 : decode cX8_arises 4 = .ok (.invokevirtual 141, 3) := by decide +kernel
theorem dX8_arises_7 : decode cX8_arises 7 = .ok (.ifCond .eq 24, 3) := by decide +kernel
theorem dX8_arises_10 : decode cX8_arises 10 = .ok (.iload_n 3, 1) := by decide +kernel
theorem dX8_arises_11 : decode cX8_arises 11 = .ok (.invokestatic 209, 3) := by decide +kernel
theorem dX8_arises_14 : decode cX8_arises 14 = .ok (.ifCond .eq 17, 3) := by decide +kernel
theorem dX8_arises_17 : decode cX8_arises 17 = .ok (.iload 5, 2) := by decide +kernel
theorem dX8_arises_19 : decode cX8_arises 19 = .ok (.iload 4, 2) := by decide +kernel
theorem dX8_arises_21 : decode cX8_arises 21 = .ok (.if_icmp .lt 10, 3) := by decide +kernel
theorem dX8_arises_24 : decode cX8_arises 24 = .ok (.iload 5, 2) := by decide +kernel
theorem dX8_arises_26 : decode cX8_arises 26 = .ok (.bipush 39, 2) := by decide +kernel
theorem dX8_arises_28 : decode cX8_arises 28 = .ok (.if_icmp .le 5, 3) := by decide +kernel
theorem dX8_arises_31 : decode cX8_arises 31 = .ok (.iconst (-1), 1) := by decide +kernel
theorem dX8_arises_32 : decode cX8_arises 32 = .ok (.ireturn, 1) := by decide +kernel
theorem dX8_arises_33 : decode cX8_arises 33 = .ok (.aload_n 0, 1) := by decide +kernel
theorem dX8_arises_34 : decode cX8_arises 34 = .ok (.getfield 44, 3) := by decide +kernel
theorem dX8_arises_37 : decode cX8_arises 37 = .ok (.getfield 87, 3) := by decide +kernel
theorem dX8_arises_40 : decode cX8_arises 40 = .ok (.bipush 30, 2) := by decide +kernel
theorem dX8_arises_42 : decode cX8_arises 42 = .ok (.if_icmp .lt 6, 3) := by decide +kernel
theorem dX8_arises_45 : decode cX8_arises 45 = .ok (.bipush (-2), 2) := by decide +kernel
theorem dX8_arises_47 : decode cX8_arises 47 = .ok (.ireturn, 1) := by decide +kernel
theorem dX8_arises_48 : decode cX8_arises 48 = .ok (.aload_n 0, 1) := by decide +kernel
theorem dX8_arises_49 : decode cX8_arises 49 = .ok (.getfield 31, 3) := by decide +kernel
theorem dX8_arises_52 : decode cX8_arises 52 = .ok (.aload_n 0, 1) := by decide +kernel
theorem dX8_arises_53 : decode cX8_arises 53 = .ok (.getfield 44, 3) := by decide +kernel
theorem dX8_arises_56 : decode cX8_arises 56 = .ok (.invokevirtual 194, 3) := by decide +kernel
theorem dX8_arises_59 : decode cX8_arises 59 = .ok (.aload_n 0, 1) := by decide +kernel
theorem dX8_arises_60 : decode cX8_arises 60 = .ok (.getfield 44, 3) := by decide +kernel
theorem dX8_arises_63 : decode cX8_arises 63 = .ok (.iload_n 1, 1) := by decide +kernel
theorem dX8_arises_64 : decode cX8_arises 64 = .ok (.iload_n 2, 1) := by decide +kernel
theorem dX8_arises_65 : decode cX8_arises 65 = .ok (.iload_n 3, 1) := by decide +kernel
theorem dX8_arises_66 : decode cX8_arises 66 = .ok (.iload 4, 2) := by decide +kernel
theorem dX8_arises_68 : decode cX8_arises 68 = .ok (.iload 5, 2) := by decide +kernel
theorem dX8_arises_70 : decode cX8_arises 70 = .ok (.invokevirtual 212, 3) := by decide +kernel
theorem dX8_arises_73 : decode cX8_arises 73 = .ok (.ireturn, 1) := by decide +kernel
theorem dX8_settle_0 : decode cX8_settle 0 = .ok (.aload_n 0, 1) := by decide +kernel
theorem dX8_settle_1 : decode cX8_settle 1 = .ok (.getfield 44, 3) := by decide +kernel
theorem dX8_settle_4 : decode cX8_settle 4 = .ok (.iload_n 1, 1) := by decide +kernel
theorem dX8_settle_5 : decode cX8_settle 5 = .ok (.invokevirtual 100, 3) := by decide +kernel
theorem dX8_settle_8 : decode cX8_settle 8 = .ok (.ifCond .eq 15, 3) := by decide +kernel
theorem dX8_settle_11 : decode cX8_settle 11 = .ok (.aload_n 0, 1) := by decide +kernel
theorem dX8_settle_12 : decode cX8_settle 12 = .ok (.getfield 44, 3) := by decide +kernel
theorem dX8_settle_15 : decode cX8_settle 15 = .ok (.getfield 78, 3) := by decide +kernel
theorem dX8_settle_18 : decode cX8_settle 18 = .ok (.bipush 39, 2) := by decide +kernel
theorem dX8_settle_20 : decode cX8_settle 20 = .ok (.if_icmp .lt 5, 3) := by decide +kernel
theorem dX8_settle_23 : decode cX8_settle 23 = .ok (.iconst (-1), 1) := by decide +kernel
theorem dX8_settle_24 : decode cX8_settle 24 = .ok (.ireturn, 1) := by decide +kernel
theorem dX8_settle_25 : decode cX8_settle 25 = .ok (.aload_n 0, 1) := by decide +kernel
theorem dX8_settle_26 : decode cX8_settle 26 = .ok (.getfield 44, 3) := by decide +kernel
theorem dX8_settle_29 : decode cX8_settle 29 = .ok (.iload_n 1, 1) := by decide +kernel
theorem dX8_settle_30 : decode cX8_settle 30 = .ok (.invokevirtual 115, 3) := by decide +kernel
theorem dX8_settle_33 : decode cX8_settle 33 = .ok (.istore_n 2, 1) := by decide +kernel
theorem dX8_settle_34 : decode cX8_settle 34 = .ok (.iload_n 2, 1) := by decide +kernel
theorem dX8_settle_35 : decode cX8_settle 35 = .ok (.ifCond .ne 5, 3) := by decide +kernel
theorem dX8_settle_38 : decode cX8_settle 38 = .ok (.iconst (-1), 1) := by decide +kernel
theorem dX8_settle_39 : decode cX8_settle 39 = .ok (.ireturn, 1) := by decide +kernel
theorem dX8_settle_40 : decode cX8_settle 40 = .ok (.aload_n 0, 1) := by decide +kernel
theorem dX8_settle_41 : decode cX8_settle 41 = .ok (.getfield 31, 3) := by decide +kernel
theorem dX8_settle_44 : decode cX8_settle 44 = .ok (.aload_n 0, 1) := by decide +kernel
theorem dX8_settle_45 : decode cX8_settle 45 = .ok (.getfield 44, 3) := by decide +kernel
theorem dX8_settle_48 : decode cX8_settle 48 = .ok (.invokevirtual 194, 3) := by decide +kernel
theorem dX8_settle_51 : decode cX8_settle 51 = .ok (.aload_n 0, 1) := by decide +kernel
theorem dX8_settle_52 : decode cX8_settle 52 = .ok (.getfield 44, 3) := by decide +kernel
theorem dX8_settle_55 : decode cX8_settle 55 = .ok (.iload_n 1, 1) := by decide +kernel
theorem dX8_settle_56 : decode cX8_settle 56 = .ok (.iload_n 2, 1) := by decide +kernel
theorem dX8_settle_57 : decode cX8_settle 57 = .ok (.invokevirtual 216, 3) := by decide +kernel
theorem dX8_settle_60 : decode cX8_settle 60 = .ok (.iload_n 2, 1) := by decide +kernel
theorem dX8_settle_61 : decode cX8_settle 61 = .ok (.ireturn, 1) := by decide +kernel
theorem dX8_loses_0 : decode cX8_loses 0 = .ok (.aload_n 0, 1) := by decide +kernel
theorem dX8_loses_1 : decode cX8_loses 1 = .ok (.iload_n 1, 1) := by decide +kernel
theorem dX8_loses_2 : decode cX8_loses 2 = .ok (.iload_n 3, 1) := by decide +kernel
theorem dX8_loses_3 : decode cX8_loses 3 = .ok (.invokevirtual 141, 3) := by decide +kernel
theorem dX8_loses_6 : decode cX8_loses 6 = .ok (.ifCond .eq 10, 3) := by decide +kernel
theorem dX8_loses_9 : decode cX8_loses 9 = .ok (.iload_n 2, 1) := by decide +kernel
theorem dX8_loses_10 : decode cX8_loses 10 = .ok (.invokestatic 209, 3) := by decide +kernel
theorem dX8_loses_13 : decode cX8_loses 13 = .ok (.ifCond .ne 5, 3) := by decide +kernel
theorem dX8_loses_16 : decode cX8_loses 16 = .ok (.iconst (-1), 1) := by decide +kernel
theorem dX8_loses_17 : decode cX8_loses 17 = .ok (.ireturn, 1) := by decide +kernel
theorem dX8_loses_18 : decode cX8_loses 18 = .ok (.aload_n 0, 1) := by decide +kernel
theorem dX8_loses_19 : decode cX8_loses 19 = .ok (.getfield 44, 3) := by decide +kernel
theorem dX8_loses_22 : decode cX8_loses 22 = .ok (.getfield 90, 3) := by decide +kernel
theorem dX8_loses_25 : decode cX8_loses 25 = .ok (.bipush 10, 2) := by decide +kernel
theorem dX8_loses_27 : decode cX8_loses 27 = .ok (.if_icmp .lt 6, 3) := by decide +kernel
theorem dX8_loses_30 : decode cX8_loses 30 = .ok (.bipush (-2), 2) := by decide +kernel
theorem dX8_loses_32 : decode cX8_loses 32 = .ok (.ireturn, 1) := by decide +kernel
theorem dX8_loses_33 : decode cX8_loses 33 = .ok (.aload_n 0, 1) := by decide +kernel
theorem dX8_loses_34 : decode cX8_loses 34 = .ok (.getfield 31, 3) := by decide +kernel
theorem dX8_loses_37 : decode cX8_loses 37 = .ok (.aload_n 0, 1) := by decide +kernel
theorem dX8_loses_38 : decode cX8_loses 38 = .ok (.getfield 44, 3) := by decide +kernel
theorem dX8_loses_41 : decode cX8_loses 41 = .ok (.invokevirtual 194, 3) := by decide +kernel
theorem dX8_loses_44 : decode cX8_loses 44 = .ok (.aload_n 0, 1) := by decide +kernel
theorem dX8_loses_45 : decode cX8_loses 45 = .ok (.getfield 44, 3) := by decide +kernel
theorem dX8_loses_48 : decode cX8_loses 48 = .ok (.iload_n 1, 1) := by decide +kernel
theorem dX8_loses_49 : decode cX8_loses 49 = .ok (.iload_n 2, 1) := by decide +kernel
theorem dX8_loses_50 : decode cX8_loses 50 = .ok (.iload_n 3, 1) := by decide +kernel
theorem dX8_loses_51 : decode cX8_loses 51 = .ok (.invokevirtual 219, 3) := by decide +kernel
theorem dX8_loses_54 : decode cX8_loses 54 = .ok (.ireturn, 1) := by decide +kernel
theorem dX8_yearEnd_0 : decode cX8_yearEnd 0 = .ok (.aload_n 0, 1) := by decide +kernel
theorem dX8_yearEnd_1 : decode cX8_yearEnd 1 = .ok (.getfield 44, 3) := by decide +kernel
theorem dX8_yearEnd_4 : decode cX8_yearEnd 4 = .ok (.getfield 78, 3) := by decide +kernel
theorem dX8_yearEnd_7 : decode cX8_yearEnd 7 = .ok (.bipush 39, 2) := by decide +kernel
theorem dX8_yearEnd_9 : decode cX8_yearEnd 9 = .ok (.if_icmp .lt 5, 3) := by decide +kernel
theorem dX8_yearEnd_12 : decode cX8_yearEnd 12 = .ok (.iconst (-1), 1) := by decide +kernel
theorem dX8_yearEnd_13 : decode cX8_yearEnd 13 = .ok (.ireturn, 1) := by decide +kernel
theorem dX8_yearEnd_14 : decode cX8_yearEnd 14 = .ok (.aload_n 0, 1) := by decide +kernel
theorem dX8_yearEnd_15 : decode cX8_yearEnd 15 = .ok (.getfield 31, 3) := by decide +kernel
theorem dX8_yearEnd_18 : decode cX8_yearEnd 18 = .ok (.aload_n 0, 1) := by decide +kernel
theorem dX8_yearEnd_19 : decode cX8_yearEnd 19 = .ok (.getfield 44, 3) := by decide +kernel
theorem dX8_yearEnd_22 : decode cX8_yearEnd 22 = .ok (.invokevirtual 194, 3) := by decide +kernel
theorem dX8_yearEnd_25 : decode cX8_yearEnd 25 = .ok (.iconst 0, 1) := by decide +kernel
theorem dX8_yearEnd_26 : decode cX8_yearEnd 26 = .ok (.istore_n 1, 1) := by decide +kernel
theorem dX8_yearEnd_27 : decode cX8_yearEnd 27 = .ok (.iload_n 1, 1) := by decide +kernel
theorem dX8_yearEnd_28 : decode cX8_yearEnd 28 = .ok (.aload_n 0, 1) := by decide +kernel
theorem dX8_yearEnd_29 : decode cX8_yearEnd 29 = .ok (.getfield 44, 3) := by decide +kernel
theorem dX8_yearEnd_32 : decode cX8_yearEnd 32 = .ok (.getfield 84, 3) := by decide +kernel
theorem dX8_yearEnd_35 : decode cX8_yearEnd 35 = .ok (.if_icmp .ge 39, 3) := by decide +kernel
theorem dX8_yearEnd_38 : decode cX8_yearEnd 38 = .ok (.aload_n 0, 1) := by decide +kernel
theorem dX8_yearEnd_39 : decode cX8_yearEnd 39 = .ok (.getfield 44, 3) := by decide +kernel
theorem dX8_yearEnd_42 : decode cX8_yearEnd 42 = .ok (.iload_n 1, 1) := by decide +kernel
theorem dX8_yearEnd_43 : decode cX8_yearEnd 43 = .ok (.invokevirtual 223, 3) := by decide +kernel
theorem dX8_yearEnd_46 : decode cX8_yearEnd 46 = .ok (.istore_n 2, 1) := by decide +kernel
theorem dX8_yearEnd_47 : decode cX8_yearEnd 47 = .ok (.aload_n 0, 1) := by decide +kernel
theorem dX8_yearEnd_48 : decode cX8_yearEnd 48 = .ok (.getfield 44, 3) := by decide +kernel
theorem dX8_yearEnd_51 : decode cX8_yearEnd 51 = .ok (.iload_n 1, 1) := by decide +kernel
theorem dX8_yearEnd_52 : decode cX8_yearEnd 52 = .ok (.iload_n 2, 1) := by decide +kernel
theorem dX8_yearEnd_53 : decode cX8_yearEnd 53 = .ok (.invokevirtual 226, 3) := by decide +kernel
theorem dX8_yearEnd_56 : decode cX8_yearEnd 56 = .ok (.aload_n 0, 1) := by decide +kernel
theorem dX8_yearEnd_57 : decode cX8_yearEnd 57 = .ok (.iload_n 1, 1) := by decide +kernel
theorem dX8_yearEnd_58 : decode cX8_yearEnd 58 = .ok (.invokevirtual 229, 3) := by decide +kernel
theorem dX8_yearEnd_61 : decode cX8_yearEnd 61 = .ok (.getfield 174, 3) := by decide +kernel
theorem dX8_yearEnd_64 : decode cX8_yearEnd 64 = .ok (.bipush 6, 2) := by decide +kernel
theorem dX8_yearEnd_66 : decode cX8_yearEnd 66 = .ok (.iload_n 2, 1) := by decide +kernel
theorem dX8_yearEnd_67 : decode cX8_yearEnd 67 = .ok (.iastore, 1) := by decide +kernel
theorem dX8_yearEnd_68 : decode cX8_yearEnd 68 = .ok (.iinc 1 1, 3) := by decide +kernel
theorem dX8_yearEnd_71 : decode cX8_yearEnd 71 = .ok (.goto (-44), 3) := by decide +kernel
theorem dX8_yearEnd_74 : decode cX8_yearEnd 74 = .ok (.iconst 0, 1) := by decide +kernel
theorem dX8_yearEnd_75 : decode cX8_yearEnd 75 = .ok (.istore_n 1, 1) := by decide +kernel
theorem dX8_yearEnd_76 : decode cX8_yearEnd 76 = .ok (.iload_n 1, 1) := by decide +kernel
theorem dX8_yearEnd_77 : decode cX8_yearEnd 77 = .ok (.aload_n 0, 1) := by decide +kernel
theorem dX8_yearEnd_78 : decode cX8_yearEnd 78 = .ok (.getfield 44, 3) := by decide +kernel
theorem dX8_yearEnd_81 : decode cX8_yearEnd 81 = .ok (.getfield 84, 3) := by decide +kernel
theorem dX8_yearEnd_84 : decode cX8_yearEnd 84 = .ok (.if_icmp .ge 38, 3) := by decide +kernel
theorem dX8_yearEnd_87 : decode cX8_yearEnd 87 = .ok (.aload_n 0, 1) := by decide +kernel
theorem dX8_yearEnd_88 : decode cX8_yearEnd 88 = .ok (.getfield 24, 3) := by decide +kernel
theorem dX8_yearEnd_91 : decode cX8_yearEnd 91 = .ok (.aload_n 0, 1) := by decide +kernel
theorem dX8_yearEnd_92 : decode cX8_yearEnd 92 = .ok (.getfield 44, 3) := by decide +kernel
theorem dX8_yearEnd_95 : decode cX8_yearEnd 95 = .ok (.iload_n 1, 1) := by decide +kernel
theorem dX8_yearEnd_96 : decode cX8_yearEnd 96 = .ok (.invokevirtual 145, 3) := by decide +kernel
theorem dX8_yearEnd_99 : decode cX8_yearEnd 99 = .ok (.aload_n 0, 1) := by decide +kernel
theorem dX8_yearEnd_100 : decode cX8_yearEnd 100 = .ok (.iload_n 1, 1) := by decide +kernel
theorem dX8_yearEnd_101 : decode cX8_yearEnd 101 = .ok (.invokevirtual 229, 3) := by decide +kernel
theorem dX8_yearEnd_104 : decode cX8_yearEnd 104 = .ok (.aload_n 0, 1) := by decide +kernel
theorem dX8_yearEnd_105 : decode cX8_yearEnd 105 = .ok (.getfield 24, 3) := by decide +kernel
theorem dX8_yearEnd_108 : decode cX8_yearEnd 108 = .ok (.aload_n 0, 1) := by decide +kernel
theorem dX8_yearEnd_109 : decode cX8_yearEnd 109 = .ok (.iload_n 1, 1) := by decide +kernel
theorem dX8_yearEnd_110 : decode cX8_yearEnd 110 = .ok (.invokevirtual 233, 3) := by decide +kernel
theorem dX8_yearEnd_113 : decode cX8_yearEnd 113 = .ok (.invokevirtual 236, 3) := by decide +kernel
theorem dX8_yearEnd_116 : decode cX8_yearEnd 116 = .ok (.iinc 1 1, 3) := by decide +kernel
theorem dX8_yearEnd_119 : decode cX8_yearEnd 119 = .ok (.goto (-43), 3) := by decide +kernel
theorem dX8_yearEnd_122 : decode cX8_yearEnd 122 = .ok (.aload_n 0, 1) := by decide +kernel
theorem dX8_yearEnd_123 : decode cX8_yearEnd 123 = .ok (.getfield 44, 3) := by decide +kernel
theorem dX8_yearEnd_126 : decode cX8_yearEnd 126 = .ok (.dup, 1) := by decide +kernel
theorem dX8_yearEnd_127 : decode cX8_yearEnd 127 = .ok (.getfield 78, 3) := by decide +kernel
theorem dX8_yearEnd_130 : decode cX8_yearEnd 130 = .ok (.iconst 1, 1) := by decide +kernel
theorem dX8_yearEnd_131 : decode cX8_yearEnd 131 = .ok (.iadd, 1) := by decide +kernel
theorem dX8_yearEnd_132 : decode cX8_yearEnd 132 = .ok (.putfield 78, 3) := by decide +kernel
theorem dX8_yearEnd_135 : decode cX8_yearEnd 135 = .ok (.aload_n 0, 1) := by decide +kernel
theorem dX8_yearEnd_136 : decode cX8_yearEnd 136 = .ok (.getfield 44, 3) := by decide +kernel
theorem dX8_yearEnd_139 : decode cX8_yearEnd 139 = .ok (.getfield 78, 3) := by decide +kernel
theorem dX8_yearEnd_142 : decode cX8_yearEnd 142 = .ok (.ireturn, 1) := by decide +kernel
theorem dX8_undo_0 : decode cX8_undo 0 = .ok (.aload_n 0, 1) := by decide +kernel
theorem dX8_undo_1 : decode cX8_undo 1 = .ok (.getfield 31, 3) := by decide +kernel
theorem dX8_undo_4 : decode cX8_undo 4 = .ok (.getfield 97, 3) := by decide +kernel
theorem dX8_undo_7 : decode cX8_undo 7 = .ok (.ifCond .ne 5, 3) := by decide +kernel
theorem dX8_undo_10 : decode cX8_undo 10 = .ok (.iconst (-1), 1) := by decide +kernel
theorem dX8_undo_11 : decode cX8_undo 11 = .ok (.ireturn, 1) := by decide +kernel
theorem dX8_undo_12 : decode cX8_undo 12 = .ok (.aload_n 0, 1) := by decide +kernel
theorem dX8_undo_13 : decode cX8_undo 13 = .ok (.getfield 31, 3) := by decide +kernel
theorem dX8_undo_16 : decode cX8_undo 16 = .ok (.aload_n 0, 1) := by decide +kernel
theorem dX8_undo_17 : decode cX8_undo 17 = .ok (.getfield 44, 3) := by decide +kernel
theorem dX8_undo_20 : decode cX8_undo 20 = .ok (.invokevirtual 240, 3) := by decide +kernel
theorem dX8_undo_23 : decode cX8_undo 23 = .ok (.aload_n 0, 1) := by decide +kernel
theorem dX8_undo_24 : decode cX8_undo 24 = .ok (.getfield 31, 3) := by decide +kernel
theorem dX8_undo_27 : decode cX8_undo 27 = .ok (.getfield 97, 3) := by decide +kernel
theorem dX8_undo_30 : decode cX8_undo 30 = .ok (.ireturn, 1) := by decide +kernel
theorem dX8_isSum_0 : decode cX8_isSum 0 = .ok (.iload_n 0, 1) := by decide +kernel
theorem dX8_isSum_1 : decode cX8_isSum 1 = .ok (.iconst 1, 1) := by decide +kernel
theorem dX8_isSum_2 : decode cX8_isSum 2 = .ok (.if_icmp .lt 13, 3) := by decide +kernel
theorem dX8_isSum_5 : decode cX8_isSum 5 = .ok (.iload_n 0, 1) := by decide +kernel
theorem dX8_isSum_6 : decode cX8_isSum 6 = .ok (.ldc 205, 2) := by decide +kernel
theorem dX8_isSum_8 : decode cX8_isSum 8 = .ok (.if_icmp .gt 7, 3) := by decide +kernel
theorem dX8_isSum_11 : decode cX8_isSum 11 = .ok (.iconst 1, 1) := by decide +kernel
theorem dX8_isSum_12 : decode cX8_isSum 12 = .ok (.goto 4, 3) := by decide +kernel
theorem dX8_isSum_15 : decode cX8_isSum 15 = .ok (.iconst 0, 1) := by decide +kernel
theorem dX8_isSum_16 : decode cX8_isSum 16 = .ok (.ireturn, 1) := by decide +kernel
theorem dX8_isYearToCome_0 : decode cX8_isYearToCome 0 = .ok (.aload_n 0, 1) := by decide +kernel
theorem dX8_isYearToCome_1 : decode cX8_isYearToCome 1 = .ok (.getfield 44, 3) := by decide +kernel
theorem dX8_isYearToCome_4 : decode cX8_isYearToCome 4 = .ok (.iload_n 1, 1) := by decide +kernel
theorem dX8_isYearToCome_5 : decode cX8_isYearToCome 5 = .ok (.invokevirtual 135, 3) := by decide +kernel
theorem dX8_isYearToCome_8 : decode cX8_isYearToCome 8 = .ok (.ifCond .eq 24, 3) := by decide +kernel
theorem dX8_isYearToCome_11 : decode cX8_isYearToCome 11 = .ok (.iload_n 2, 1) := by decide +kernel
theorem dX8_isYearToCome_12 : decode cX8_isYearToCome 12 = .ok (.aload_n 0, 1) := by decide +kernel
theorem dX8_isYearToCome_13 : decode cX8_isYearToCome 13 = .ok (.getfield 44, 3) := by decide +kernel
theorem dX8_isYearToCome_16 : decode cX8_isYearToCome 16 = .ok (.getfield 78, 3) := by decide +kernel
