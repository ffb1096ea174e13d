theorem dX8_isYearToCome_19 : decode cX8_isYearToCome 19 = .ok (.if_icmp .le 13, 3) := by decide +kernel
theorem dX8_isYearToCome_22 : decode cX8_isYearToCome 22 = .ok (.iload_n 2, 1) := by decide +kernel
theorem dX8_isYearToCome_23 : decode cX8_isYearToCome 23 = .ok (.bipush 39, 2) := by decide +kernel
theorem dX8_isYearToCome_25 : decode cX8_isYearToCome 25 = .ok (.if_icmp .gt 7, 3) := by decide +kernel
theorem dX8_isYearToCome_28 : decode cX8_isYearToCome 28 = .ok (.iconst 1, 1) := by decide +kernel
theorem dX8_isYearToCome_29 : decode cX8_isYearToCome 29 = .ok (.goto 4, 3) := by decide +kernel
theorem dX8_isYearToCome_32 : decode cX8_isYearToCome 32 = .ok (.iconst 0, 1) := by decide +kernel
theorem dX8_isYearToCome_33 : decode cX8_isYearToCome 33 = .ok (.ireturn, 1) := by decide +kernel
theorem dX8_isYearNotClosed_0 : decode cX8_isYearNotClosed 0 = .ok (.aload_n 0, 1) := by decide +kernel
theorem dX8_isYearNotClosed_1 : decode cX8_isYearNotClosed 1 = .ok (.getfield 44, 3) := by decide +kernel
theorem dX8_isYearNotClosed_4 : decode cX8_isYearNotClosed 4 = .ok (.iload_n 1, 1) := by decide +kernel
theorem dX8_isYearNotClosed_5 : decode cX8_isYearNotClosed 5 = .ok (.invokevirtual 135, 3) := by decide +kernel
theorem dX8_isYearNotClosed_8 : decode cX8_isYearNotClosed 8 = .ok (.ifCond .eq 24, 3) := by decide +kernel
theorem dX8_isYearNotClosed_11 : decode cX8_isYearNotClosed 11 = .ok (.iload_n 2, 1) := by decide +kernel
theorem dX8_isYearNotClosed_12 : decode cX8_isYearNotClosed 12 = .ok (.aload_n 0, 1) := by decide +kernel
theorem dX8_isYearNotClosed_13 : decode cX8_isYearNotClosed 13 = .ok (.getfield 44, 3) := by decide +kernel
theorem dX8_isYearNotClosed_16 : decode cX8_isYearNotClosed 16 = .ok (.getfield 78, 3) := by decide +kernel
theorem dX8_isYearNotClosed_19 : decode cX8_isYearNotClosed 19 = .ok (.if_icmp .lt 13, 3) := by decide +kernel
theorem dX8_isYearNotClosed_22 : decode cX8_isYearNotClosed 22 = .ok (.iload_n 2, 1) := by decide +kernel
theorem dX8_isYearNotClosed_23 : decode cX8_isYearNotClosed 23 = .ok (.bipush 39, 2) := by decide +kernel
theorem dX8_isYearNotClosed_25 : decode cX8_isYearNotClosed 25 = .ok (.if_icmp .gt 7, 3) := by decide +kernel
theorem dX8_isYearNotClosed_28 : decode cX8_isYearNotClosed 28 = .ok (.iconst 1, 1) := by decide +kernel
theorem dX8_isYearNotClosed_29 : decode cX8_isYearNotClosed 29 = .ok (.goto 4, 3) := by decide +kernel
theorem dX8_isYearNotClosed_32 : decode cX8_isYearNotClosed 32 = .ok (.iconst 0, 1) := by decide +kernel
theorem dX8_isYearNotClosed_33 : decode cX8_isYearNotClosed 33 = .ok (.ireturn, 1) := by decide +kernel
theorem dX8_mayBeEnacted_0 : decode cX8_mayBeEnacted 0 = .ok (.aload_n 0, 1) := by decide +kernel
theorem dX8_mayBeEnacted_1 : decode cX8_mayBeEnacted 1 = .ok (.iload_n 1, 1) := by decide +kernel
theorem dX8_mayBeEnacted_2 : decode cX8_mayBeEnacted 2 = .ok (.iload_n 2, 1) := by decide +kernel
theorem dX8_mayBeEnacted_3 : decode cX8_mayBeEnacted 3 = .ok (.invokevirtual 202, 3) := by decide +kernel
theorem dX8_mayBeEnacted_6 : decode cX8_mayBeEnacted 6 = .ok (.ifCond .eq 18, 3) := by decide +kernel
theorem dX8_mayBeEnacted_9 : decode cX8_mayBeEnacted 9 = .ok (.iload_n 3, 1) := by decide +kernel
theorem dX8_mayBeEnacted_10 : decode cX8_mayBeEnacted 10 = .ok (.ifCond .lt 14, 3) := by decide +kernel
theorem dX8_mayBeEnacted_13 : decode cX8_mayBeEnacted 13 = .ok (.iload_n 3, 1) := by decide +kernel
theorem dX8_mayBeEnacted_14 : decode cX8_mayBeEnacted 14 = .ok (.sipush 900, 3) := by decide +kernel
theorem dX8_mayBeEnacted_17 : decode cX8_mayBeEnacted 17 = .ok (.if_icmp .gt 7, 3) := by decide +kernel
theorem dX8_mayBeEnacted_20 : decode cX8_mayBeEnacted 20 = .ok (.iconst 1, 1) := by decide +kernel
theorem dX8_mayBeEnacted_21 : decode cX8_mayBeEnacted 21 = .ok (.goto 4, 3) := by decide +kernel
theorem dX8_mayBeEnacted_24 : decode cX8_mayBeEnacted 24 = .ok (.iconst 0, 1) := by decide +kernel
theorem dX8_mayBeEnacted_25 : decode cX8_mayBeEnacted 25 = .ok (.ireturn, 1) := by decide +kernel
theorem dX8_balanceOfOne_0 : decode cX8_balanceOfOne 0 = .ok (.aload_n 0, 1) := by decide +kernel
theorem dX8_balanceOfOne_1 : decode cX8_balanceOfOne 1 = .ok (.getfield 24, 3) := by decide +kernel
theorem dX8_balanceOfOne_4 : decode cX8_balanceOfOne 4 = .ok (.aload_n 0, 1) := by decide +kernel
theorem dX8_balanceOfOne_5 : decode cX8_balanceOfOne 5 = .ok (.getfield 44, 3) := by decide +kernel
theorem dX8_balanceOfOne_8 : decode cX8_balanceOfOne 8 = .ok (.iload_n 1, 1) := by decide +kernel
theorem dX8_balanceOfOne_9 : decode cX8_balanceOfOne 9 = .ok (.invokevirtual 145, 3) := by decide +kernel
theorem dX8_balanceOfOne_12 : decode cX8_balanceOfOne 12 = .ok (.iload_n 2, 1) := by decide +kernel
theorem dX8_balanceOfOne_13 : decode cX8_balanceOfOne 13 = .ok (.tableswitch 51 0 2 #[27, 35, 43], 27) := by decide +kernel
theorem dX8_balanceOfOne_40 : decode cX8_balanceOfOne 40 = .ok (.aload_n 0, 1) := by decide +kernel
theorem dX8_balanceOfOne_41 : decode cX8_balanceOfOne 41 = .ok (.getfield 24, 3) := by decide +kernel
theorem dX8_balanceOfOne_44 : decode cX8_balanceOfOne 44 = .ok (.invokevirtual 243, 3) := by decide +kernel
theorem dX8_balanceOfOne_47 : decode cX8_balanceOfOne 47 = .ok (.ireturn, 1) := by decide +kernel
theorem dX8_balanceOfOne_48 : decode cX8_balanceOfOne 48 = .ok (.aload_n 0, 1) := by decide +kernel
theorem dX8_balanceOfOne_49 : decode cX8_balanceOfOne 49 = .ok (.getfield 24, 3) := by decide +kernel
theorem dX8_balanceOfOne_52 : decode cX8_balanceOfOne 52 = .ok (.invokevirtual 246, 3) := by decide +kernel
theorem dX8_balanceOfOne_55 : decode cX8_balanceOfOne 55 = .ok (.ireturn, 1) := by decide +kernel
theorem dX8_balanceOfOne_56 : decode cX8_balanceOfOne 56 = .ok (.aload_n 0, 1) := by decide +kernel
theorem dX8_balanceOfOne_57 : decode cX8_balanceOfOne 57 = .ok (.getfield 24, 3) := by decide +kernel
theorem dX8_balanceOfOne_60 : decode cX8_balanceOfOne 60 = .ok (.invokevirtual 188, 3) := by decide +kernel
theorem dX8_balanceOfOne_63 : decode cX8_balanceOfOne 63 = .ok (.ireturn, 1) := by decide +kernel
theorem dX8_balanceOfOne_64 : decode cX8_balanceOfOne 64 = .ok (.aload_n 0, 1) := by decide +kernel
theorem dX8_balanceOfOne_65 : decode cX8_balanceOfOne 65 = .ok (.getfield 24, 3) := by decide +kernel
theorem dX8_balanceOfOne_68 : decode cX8_balanceOfOne 68 = .ok (.invokevirtual 185, 3) := by decide +kernel
theorem dX8_balanceOfOne_71 : decode cX8_balanceOfOne 71 = .ok (.ireturn, 1) := by decide +kernel
theorem dX8_balanceOfAll_0 : decode cX8_balanceOfAll 0 = .ok (.iconst 0, 1) := by decide +kernel
theorem dX8_balanceOfAll_1 : decode cX8_balanceOfAll 1 = .ok (.istore_n 2, 1) := by decide +kernel
theorem dX8_balanceOfAll_2 : decode cX8_balanceOfAll 2 = .ok (.iconst 0, 1) := by decide +kernel
theorem dX8_balanceOfAll_3 : decode cX8_balanceOfAll 3 = .ok (.istore_n 3, 1) := by decide +kernel
theorem dX8_balanceOfAll_4 : decode cX8_balanceOfAll 4 = .ok (.iload_n 3, 1) := by decide +kernel
theorem dX8_balanceOfAll_5 : decode cX8_balanceOfAll 5 = .ok (.aload_n 0, 1) := by decide +kernel
theorem dX8_balanceOfAll_6 : decode cX8_balanceOfAll 6 = .ok (.getfield 44, 3) := by decide +kernel
theorem dX8_balanceOfAll_9 : decode cX8_balanceOfAll 9 = .ok (.getfield 84, 3) := by decide +kernel
theorem dX8_balanceOfAll_12 : decode cX8_balanceOfAll 12 = .ok (.if_icmp .ge 59, 3) := by decide +kernel
theorem dX8_balanceOfAll_15 : decode cX8_balanceOfAll 15 = .ok (.aload_n 0, 1) := by decide +kernel
theorem dX8_balanceOfAll_16 : decode cX8_balanceOfAll 16 = .ok (.iload_n 3, 1) := by decide +kernel
theorem dX8_balanceOfAll_17 : decode cX8_balanceOfAll 17 = .ok (.iload_n 1, 1) := by decide +kernel
theorem dX8_balanceOfAll_18 : decode cX8_balanceOfAll 18 = .ok (.iconst 3, 1) := by decide +kernel
theorem dX8_balanceOfAll_19 : decode cX8_balanceOfAll 19 = .ok (.invokestatic 249, 3) := by decide +kernel
theorem dX8_balanceOfAll_22 : decode cX8_balanceOfAll 22 = .ok (.invokevirtual 171, 3) := by decide +kernel
theorem dX8_balanceOfAll_25 : decode cX8_balanceOfAll 25 = .ok (.istore 4, 2) := by decide +kernel
theorem dX8_balanceOfAll_27 : decode cX8_balanceOfAll 27 = .ok (.iload_n 1, 1) := by decide +kernel
theorem dX8_balanceOfAll_28 : decode cX8_balanceOfAll 28 = .ok (.iconst 3, 1) := by decide +kernel
theorem dX8_balanceOfAll_29 : decode cX8_balanceOfAll 29 = .ok (.if_icmp .lt 13, 3) := by decide +kernel
theorem dX8_balanceOfAll_32 : decode cX8_balanceOfAll 32 = .ok (.iload_n 1, 1) := by decide +kernel
theorem dX8_balanceOfAll_33 : decode cX8_balanceOfAll 33 = .ok (.iconst 3, 1) := by decide +kernel
theorem dX8_balanceOfAll_34 : decode cX8_balanceOfAll 34 = .ok (.if_icmp .ne 16, 3) := by decide +kernel
theorem dX8_balanceOfAll_37 : decode cX8_balanceOfAll 37 = .ok (.iload 4, 2) := by decide +kernel
theorem dX8_balanceOfAll_39 : decode cX8_balanceOfAll 39 = .ok (.ifCond .le 11, 3) := by decide +kernel
theorem dX8_balanceOfAll_42 : decode cX8_balanceOfAll 42 = .ok (.iload_n 2, 1) := by decide +kernel
theorem dX8_balanceOfAll_43 : decode cX8_balanceOfAll 43 = .ok (.iload 4, 2) := by decide +kernel
theorem dX8_balanceOfAll_45 : decode cX8_balanceOfAll 45 = .ok (.iadd, 1) := by decide +kernel
theorem dX8_balanceOfAll_46 : decode cX8_balanceOfAll 46 = .ok (.istore_n 2, 1) := by decide +kernel
theorem dX8_balanceOfAll_47 : decode cX8_balanceOfAll 47 = .ok (.goto 18, 3) := by decide +kernel
theorem dX8_balanceOfAll_50 : decode cX8_balanceOfAll 50 = .ok (.iload_n 1, 1) := by decide +kernel
theorem dX8_balanceOfAll_51 : decode cX8_balanceOfAll 51 = .ok (.iconst 4, 1) := by decide +kernel
theorem dX8_balanceOfAll_52 : decode cX8_balanceOfAll 52 = .ok (.if_icmp .ne 13, 3) := by decide +kernel
theorem dX8_balanceOfAll_55 : decode cX8_balanceOfAll 55 = .ok (.iload 4, 2) := by decide +kernel
theorem dX8_balanceOfAll_57 : decode cX8_balanceOfAll 57 = .ok (.ifCond .ge 8, 3) := by decide +kernel
theorem dX8_balanceOfAll_60 : decode cX8_balanceOfAll 60 = .ok (.iload_n 2, 1) := by decide +kernel
theorem dX8_balanceOfAll_61 : decode cX8_balanceOfAll 61 = .ok (.iload 4, 2) := by decide +kernel
theorem dX8_balanceOfAll_63 : decode cX8_balanceOfAll 63 = .ok (.isub, 1) := by decide +kernel
theorem dX8_balanceOfAll_64 : decode cX8_balanceOfAll 64 = .ok (.istore_n 2, 1) := by decide +kernel
theorem dX8_balanceOfAll_65 : decode cX8_balanceOfAll 65 = .ok (.iinc 3 1, 3) := by decide +kernel
theorem dX8_balanceOfAll_68 : decode cX8_balanceOfAll 68 = .ok (.goto (-64), 3) := by decide +kernel
theorem dX8_balanceOfAll_71 : decode cX8_balanceOfAll 71 = .ok (.iload_n 2, 1) := by decide +kernel
theorem dX8_balanceOfAll_72 : decode cX8_balanceOfAll 72 = .ok (.ireturn, 1) := by decide +kernel
theorem dX8_leastProfitMore_0 : decode cX8_leastProfitMore 0 = .ok (.aload_n 0, 1) := by decide +kernel
theorem dX8_leastProfitMore_1 : decode cX8_leastProfitMore 1 = .ok (.iload_n 1, 1) := by decide +kernel
theorem dX8_leastProfitMore_2 : decode cX8_leastProfitMore 2 = .ok (.iload_n 2, 1) := by decide +kernel
theorem dX8_leastProfitMore_3 : decode cX8_leastProfitMore 3 = .ok (.ldc 205, 2) := by decide +kernel
theorem dX8_leastProfitMore_5 : decode cX8_leastProfitMore 5 = .ok (.invokevirtual 254, 3) := by decide +kernel
theorem dX8_leastProfitMore_8 : decode cX8_leastProfitMore 8 = .ok (.ifCond .ne 6, 3) := by decide +kernel
theorem dX8_leastProfitMore_11 : decode cX8_leastProfitMore 11 = .ok (.bipush (-2), 2) := by decide +kernel
theorem dX8_leastProfitMore_13 : decode cX8_leastProfitMore 13 = .ok (.ireturn, 1) := by decide +kernel
theorem dX8_leastProfitMore_14 : decode cX8_leastProfitMore 14 = .ok (.iconst 0, 1) := by decide +kernel
theorem dX8_leastProfitMore_15 : decode cX8_leastProfitMore 15 = .ok (.istore_n 3, 1) := by decide +kernel
theorem dX8_leastProfitMore_16 : decode cX8_leastProfitMore 16 = .ok (.ldc 205, 2) := by decide +kernel
theorem dX8_leastProfitMore_18 : decode cX8_leastProfitMore 18 = .ok (.istore 4, 2) := by decide +kernel
theorem dX8_leastProfitMore_20 : decode cX8_leastProfitMore 20 = .ok (.iconst 0, 1) := by decide +kernel
theorem dX8_leastProfitMore_21 : decode cX8_leastProfitMore 21 = .ok (.istore 5, 2) := by decide +kernel
theorem dX8_leastProfitMore_23 : decode cX8_leastProfitMore 23 = .ok (.iload 5, 2) := by decide +kernel
theorem dX8_leastProfitMore_25 : decode cX8_leastProfitMore 25 = .ok (.bipush 32, 2) := by decide +kernel
theorem dX8_leastProfitMore_27 : decode cX8_leastProfitMore 27 = .ok (.if_icmp .ge 46, 3) := by decide +kernel
theorem dX8_leastProfitMore_30 : decode cX8_leastProfitMore 30 = .ok (.iload 4, 2) := by decide +kernel
theorem dX8_leastProfitMore_32 : decode cX8_leastProfitMore 32 = .ok (.iload_n 3, 1) := by decide +kernel
theorem dX8_leastProfitMore_33 : decode cX8_leastProfitMore 33 = .ok (.isub, 1) := by decide +kernel
theorem dX8_leastProfitMore_34 : decode cX8_leastProfitMore 34 = .ok (.iconst 1, 1) := by decide +kernel
theorem dX8_leastProfitMore_35 : decode cX8_leastProfitMore 35 = .ok (.if_icmp .le 38, 3) := by decide +kernel
theorem dX8_leastProfitMore_38 : decode cX8_leastProfitMore 38 = .ok (.iload_n 3, 1) := by decide +kernel
theorem dX8_leastProfitMore_39 : decode cX8_leastProfitMore 39 = .ok (.iload 4, 2) := by decide +kernel
theorem dX8_leastProfitMore_41 : decode cX8_leastProfitMore 41 = .ok (.iadd, 1) := by decide +kernel
theorem dX8_leastProfitMore_42 : decode cX8_leastProfitMore 42 = .ok (.iconst 2, 1) := by decide +kernel
theorem dX8_leastProfitMore_43 : decode cX8_leastProfitMore 43 = .ok (.idiv, 1) := by decide +kernel
theorem dX8_leastProfitMore_44 : decode cX8_leastProfitMore 44 = .ok (.istore 6, 2) := by decide +kernel
theorem dX8_leastProfitMore_46 : decode cX8_leastProfitMore 46 = .ok (.aload_n 0, 1) := by decide +kernel
theorem dX8_leastProfitMore_47 : decode cX8_leastProfitMore 47 = .ok (.iload_n 1, 1) := by decide +kernel
theorem dX8_leastProfitMore_48 : decode cX8_leastProfitMore 48 = .ok (.iload_n 2, 1) := by decide +kernel
theorem dX8_leastProfitMore_49 : decode cX8_leastProfitMore 49 = .ok (.iload 6, 2) := by decide +kernel
theorem dX8_leastProfitMore_51 : decode cX8_leastProfitMore 51 = .ok (.invokevirtual 254, 3) := by decide +kernel
theorem dX8_leastProfitMore_54 : decode cX8_leastProfitMore 54 = .ok (.ifCond .eq 10, 3) := by decide +kernel
theorem dX8_leastProfitMore_57 : decode cX8_leastProfitMore 57 = .ok (.iload 6, 2) := by decide +kernel
theorem dX8_leastProfitMore_59 : decode cX8_leastProfitMore 59 = .ok (.istore 4, 2) := by decide +kernel
theorem dX8_leastProfitMore_61 : decode cX8_leastProfitMore 61 = .ok (.goto 6, 3) := by decide +kernel
theorem dX8_leastProfitMore_64 : decode cX8_leastProfitMore 64 = .ok (.iload 6, 2) := by decide +kernel
theorem dX8_leastProfitMore_66 : decode cX8_leastProfitMore 66 = .ok (.istore_n 3, 1) := by decide +kernel
theorem dX8_leastProfitMore_67 : decode cX8_leastProfitMore 67 = .ok (.iinc 5 1, 3) := by decide +kernel
theorem dX8_leastProfitMore_70 : decode cX8_leastProfitMore 70 = .ok (.goto (-47), 3) := by decide +kernel
theorem dX8_leastProfitMore_73 : decode cX8_leastProfitMore 73 = .ok (.iload 4, 2) := by decide +kernel
theorem dX8_leastProfitMore_75 : decode cX8_leastProfitMore 75 = .ok (.ireturn, 1) := by decide +kernel
theorem dX8_isEnough_0 : decode cX8_isEnough 0 = .ok (.aload_n 0, 1) := by decide +kernel
theorem dX8_isEnough_1 : decode cX8_isEnough 1 = .ok (.getfield 24, 3) := by decide +kernel
theorem dX8_isEnough_4 : decode cX8_isEnough 4 = .ok (.aload_n 0, 1) := by decide +kernel
theorem dX8_isEnough_5 : decode cX8_isEnough 5 = .ok (.getfield 44, 3) := by decide +kernel
theorem dX8_isEnough_8 : decode cX8_isEnough 8 = .ok (.iload_n 1, 1) := by decide +kernel
theorem dX8_isEnough_9 : decode cX8_isEnough 9 = .ok (.iload_n 2, 1) := by decide +kernel
theorem dX8_isEnough_10 : decode cX8_isEnough 10 = .ok (.iload_n 3, 1) := by decide +kernel
theorem dX8_isEnough_11 : decode cX8_isEnough 11 = .ok (.invokevirtual 257, 3) := by decide +kernel
theorem dX8_isEnough_14 : decode cX8_isEnough 14 = .ok (.aload_n 0, 1) := by decide +kernel
theorem dX8_isEnough_15 : decode cX8_isEnough 15 = .ok (.getfield 24, 3) := by decide +kernel
theorem dX8_isEnough_18 : decode cX8_isEnough 18 = .ok (.invokevirtual 188, 3) := by decide +kernel
theorem dX8_isEnough_21 : decode cX8_isEnough 21 = .ok (.ifCond .ne 7, 3) := by decide +kernel
theorem dX8_isEnough_24 : decode cX8_isEnough 24 = .ok (.iconst 1, 1) := by decide +kernel
theorem dX8_isEnough_25 : decode cX8_isEnough 25 = .ok (.goto 4, 3) := by decide +kernel
theorem dX8_isEnough_28 : decode cX8_isEnough 28 = .ok (.iconst 0, 1) := by decide +kernel
theorem dX8_isEnough_29 : decode cX8_isEnough 29 = .ok (.ireturn, 1) := by decide +kernel
theorem dX8_closingToFill_0 : decode cX8_closingToFill 0 = .ok (.aload_n 0, 1) := by decide +kernel
theorem dX8_closingToFill_1 : decode cX8_closingToFill 1 = .ok (.getfield 44, 3) := by decide +kernel
theorem dX8_closingToFill_4 : decode cX8_closingToFill 4 = .ok (.getfield 78, 3) := by decide +kernel
theorem dX8_closingToFill_7 : decode cX8_closingToFill 7 = .ok (.iconst 3, 1) := by decide +kernel
theorem dX8_closingToFill_8 : decode cX8_closingToFill 8 = .ok (.imul, 1) := by decide +kernel
theorem dX8_closingToFill_9 : decode cX8_closingToFill 9 = .ok (.iload_n 1, 1) := by decide +kernel
theorem dX8_closingToFill_10 : decode cX8_closingToFill 10 = .ok (.iadd, 1) := by decide +kernel
theorem dX8_closingToFill_11 : decode cX8_closingToFill 11 = .ok (.istore_n 2, 1) := by decide +kernel
theorem dX8_closingToFill_12 : decode cX8_closingToFill 12 = .ok (.aload_n 0, 1) := by decide +kernel
theorem dX8_closingToFill_13 : decode cX8_closingToFill 13 = .ok (.getfield 37, 3) := by decide +kernel
theorem dX8_closingToFill_16 : decode cX8_closingToFill 16 = .ok (.iload_n 2, 1) := by decide +kernel
theorem dX8_closingToFill_17 : decode cX8_closingToFill 17 = .ok (.aaload, 1) := by decide +kernel
theorem dX8_closingToFill_18 : decode cX8_closingToFill 18 = .ok (.ifnonnull 16, 3) := by decide +kernel
theorem dX8_closingToFill_21 : decode cX8_closingToFill 21 = .ok (.aload_n 0, 1) := by decide +kernel
theorem dX8_closingToFill_22 : decode cX8_closingToFill 22 = .ok (.getfield 37, 3) := by decide +kernel
theorem dX8_closingToFill_25 : decode cX8_closingToFill 25 = .ok (.iload_n 2, 1) := by decide +kernel
theorem dX8_closingToFill_26 : decode cX8_closingToFill 26 = .ok (.new 35, 3) := by decide +kernel
theorem dX8_closingToFill_29 : decode cX8_closingToFill 29 = .ok (.dup, 1) := by decide +kernel
theorem dX8_closingToFill_30 : decode cX8_closingToFill 30 = .ok (.invokespecial 261, 3) := by decide +kernel
theorem dX8_closingToFill_33 : decode cX8_closingToFill 33 = .ok (.aastore, 1) := by decide +kernel
theorem dX8_closingToFill_34 : decode cX8_closingToFill 34 = .ok (.aload_n 0, 1) := by decide +kernel
theorem dX8_closingToFill_35 : decode cX8_closingToFill 35 = .ok (.getfield 37, 3) := by decide +kernel
theorem dX8_closingToFill_38 : decode cX8_closingToFill 38 = .ok (.iload_n 2, 1) := by decide +kernel
theorem dX8_closingToFill_39 : decode cX8_closingToFill 39 = .ok (.aaload, 1) := by decide +kernel
theorem dX8_closingToFill_40 : decode cX8_closingToFill 40 = .ok (.areturn, 1) := by decide +kernel
theorem dX8_closingAhead_0 : decode cX8_closingAhead 0 = .ok (.aload_n 0, 1) := by decide +kernel
theorem dX8_closingAhead_1 : decode cX8_closingAhead 1 = .ok (.getfield 44, 3) := by decide +kernel
theorem dX8_closingAhead_4 : decode cX8_closingAhead 4 = .ok (.getfield 78, 3) := by decide +kernel
theorem dX8_closingAhead_7 : decode cX8_closingAhead 7 = .ok (.ifCond .ne 7, 3) := by decide +kernel
theorem dX8_closingAhead_10 : decode cX8_closingAhead 10 = .ok (.aconst_null, 1) := by decide +kernel
theorem dX8_closingAhead_11 : decode cX8_closingAhead 11 = .ok (.goto 21, 3) := by decide +kernel
theorem dX8_closingAhead_14 : decode cX8_closingAhead 14 = .ok (.aload_n 0, 1) := by decide +kernel
theorem dX8_closingAhead_15 : decode cX8_closingAhead 15 = .ok (.getfield 37, 3) := by decide +kernel
theorem dX8_closingAhead_18 : decode cX8_closingAhead 18 = .ok (.aload_n 0, 1) := by decide +kernel
theorem dX8_closingAhead_19 : decode cX8_closingAhead 19 = .ok (.getfield 44, 3) := by decide +kernel
theorem dX8_closingAhead_22 : decode cX8_closingAhead 22 = .ok (.getfield 78, 3) := by decide +kernel
theorem dX8_closingAhead_25 : decode cX8_closingAhead 25 = .ok (.iconst 1, 1) := by decide +kernel
theorem dX8_closingAhead_26 : decode cX8_closingAhead 26 = .ok (.isub, 1) := by decide +kernel
theorem dX8_closingAhead_27 : decode cX8_closingAhead 27 = .ok (.iconst 3, 1) := by decide +kernel
theorem dX8_closingAhead_28 : decode cX8_closingAhead 28 = .ok (.imul, 1) := by decide +kernel
theorem dX8_closingAhead_29 : decode cX8_closingAhead 29 = .ok (.iload_n 1, 1) := by decide +kernel
theorem dX8_closingAhead_30 : decode cX8_closingAhead 30 = .ok (.iadd, 1) := by decide +kernel
theorem dX8_closingAhead_31 : decode cX8_closingAhead 31 = .ok (.aaload, 1) := by decide +kernel
theorem dX8_closingAhead_32 : decode cX8_closingAhead 32 = .ok (.areturn, 1) := by decide +kernel
theorem dX9_thrown_0 : decode cX9_thrown 0 = .ok (.aload_n 0, 1) := by decide +kernel
theorem dX9_thrown_1 : decode cX9_thrown 1 = .ok (.getfield 1, 3) := by decide +kernel
theorem dX9_thrown_4 : decode cX9_thrown 4 = .ok (.ireturn, 1) := by decide +kernel
theorem dX9_refuse_0 : decode cX9_refuse 0 = .ok (.aload_n 0, 1) := by decide +kernel
theorem dX9_refuse_1 : decode cX9_refuse 1 = .ok (.iconst 1, 1) := by decide +kernel
theorem dX9_refuse_2 : decode cX9_refuse 2 = .ok (.putfield 1, 3) := by decide +kernel
theorem dX9_refuse_5 : decode cX9_refuse 5 = .ok (.iconst 0, 1) := by decide +kernel
theorem dX9_refuse_6 : decode cX9_refuse 6 = .ok (.ireturn, 1) := by decide +kernel
theorem dX9_isIn_0 : decode cX9_isIn 0 = .ok (.iload_n 0, 1) := by decide +kernel
theorem dX9_isIn_1 : decode cX9_isIn 1 = .ok (.iload_n 1, 1) := by decide +kernel
theorem dX9_isIn_2 : decode cX9_isIn 2 = .ok (.if_icmp .lt 12, 3) := by decide +kernel
theorem dX9_isIn_5 : decode cX9_isIn 5 = .ok (.iload_n 0, 1) := by decide +kernel
theorem dX9_isIn_6 : decode cX9_isIn 6 = .ok (.iload_n 2, 1) := by decide +kernel
theorem dX9_isIn_7 : decode cX9_isIn 7 = .ok (.if_icmp .gt 7, 3) := by decide +kernel
theorem dX9_isIn_10 : decode cX9_isIn 10 = .ok (.iconst 1, 1) := by decide +kernel
theorem dX9_isIn_11 : decode cX9_isIn 11 = .ok (.goto 4, 3) := by decide +kernel
theorem dX9_isIn_14 : decode cX9_isIn 14 = .ok (.iconst 0, 1) := by decide +kernel
theorem dX9_isIn_15 : decode cX9_isIn 15 = .ok (.ireturn, 1) := by decide +kernel
theorem dX9_lays_0 : decode cX9_lays 0 = .ok (.bipush 24, 2) := by decide +kernel
theorem dX9_lays_2 : decode cX9_lays 2 = .ok (.istore_n 2, 1) := by decide +kernel
theorem dX9_lays_3 : decode cX9_lays 3 = .ok (.iload_n 2, 1) := by decide +kernel
theorem dX9_lays_4 : decode cX9_lays 4 = .ok (.ifCond .lt 35, 3) := by decide +kernel
theorem dX9_lays_7 : decode cX9_lays 7 = .ok (.aload_n 0, 1) := by decide +kernel
theorem dX9_lays_8 : decode cX9_lays 8 = .ok (.getfield 7, 3) := by decide +kernel
theorem dX9_lays_11 : decode cX9_lays 11 = .ok (.aload_n 0, 1) := by decide +kernel
theorem dX9_lays_12 : decode cX9_lays 12 = .ok (.getfield 11, 3) := by decide +kernel
theorem dX9_lays_15 : decode cX9_lays 15 = .ok (.iload_n 1, 1) := by decide +kernel
theorem dX9_lays_16 : decode cX9_lays 16 = .ok (.iload_n 2, 1) := by decide +kernel
theorem dX9_lays_17 : decode cX9_lays 17 = .ok (.iushr, 1) := by decide +kernel
theorem dX9_lays_18 : decode cX9_lays 18 = .ok (.sipush 255, 3) := by decide +kernel
theorem dX9_lays_21 : decode cX9_lays 21 = .ok (.iand, 1) := by decide +kernel
theorem dX9_lays_22 : decode cX9_lays 22 = .ok (.iastore, 1) := by decide +kernel
theorem dX9_lays_23 : decode cX9_lays 23 = .ok (.aload_n 0, 1) := by decide +kernel
theorem dX9_lays_24 : decode cX9_lays 24 = .ok (.dup, 1) := by decide +kernel
theorem dX9_lays_25 : decode cX9_lays 25 = .ok (.getfield 11, 3) := by decide +kernel
theorem dX9_lays_28 : decode cX9_lays 28 = .ok (.iconst 1, 1) := by decide +kernel
theorem dX9_lays_29 : decode cX9_lays 29 = .ok (.iadd, 1) := by decide +kernel
theorem dX9_lays_30 : decode cX9_lays 30 = .ok (.putfield 11, 3) := by decide +kernel
theorem dX9_lays_33 : decode cX9_lays 33 = .ok (.iinc 2 (-8), 3) := by decide +kernel
theorem dX9_lays_36 : decode cX9_lays 36 = .ok (.goto (-33), 3) := by decide +kernel
theorem dX9_lays_39 : decode cX9_lays 39 = .ok (.return_, 1) := by decide +kernel
theorem dX9_feed_0 : decode cX9_feed 0 = .ok (.aload_n 0, 1) := by decide +kernel
theorem dX9_feed_1 : decode cX9_feed 1 = .ok (.iconst 0, 1) := by decide +kernel
theorem dX9_feed_2 : decode cX9_feed 2 = .ok (.putfield 1, 3) := by decide +kernel
theorem dX9_feed_5 : decode cX9_feed 5 = .ok (.aload_n 0, 1) := by decide +kernel
theorem dX9_feed_6 : decode cX9_feed 6 = .ok (.getfield 11, 3) := by decide +kernel
theorem dX9_feed_9 : decode cX9_feed 9 = .ok (.bipush 20, 2) := by decide +kernel
theorem dX9_feed_11 : decode cX9_feed 11 = .ok (.iadd, 1) := by decide +kernel
theorem dX9_feed_12 : decode cX9_feed 12 = .ok (.sipush 640, 3) := by decide +kernel
theorem dX9_feed_15 : decode cX9_feed 15 = .ok (.if_icmp .le 5, 3) := by decide +kernel
theorem dX9_feed_18 : decode cX9_feed 18 = .ok (.iconst (-1), 1) := by decide +kernel
theorem dX9_feed_19 : decode cX9_feed 19 = .ok (.ireturn, 1) := by decide +kernel
theorem dX9_feed_20 : decode cX9_feed 20 = .ok (.aload_n 0, 1) := by decide +kernel
theorem dX9_feed_21 : decode cX9_feed 21 = .ok (.iload_n 1, 1) := by decide +kernel
theorem dX9_feed_22 : decode cX9_feed 22 = .ok (.invokevirtual 14, 3) := by decide +kernel
theorem dX9_feed_25 : decode cX9_feed 25 = .ok (.aload_n 0, 1) := by decide +kernel
theorem dX9_feed_26 : decode cX9_feed 26 = .ok (.iload_n 2, 1) := by decide +kernel
theorem dX9_feed_27 : decode cX9_feed 27 = .ok (.invokevirtual 14, 3) := by decide +kernel
theorem dX9_feed_30 : decode cX9_feed 30 = .ok (.aload_n 0, 1) := by decide +kernel
theorem dX9_feed_31 : decode cX9_feed 31 = .ok (.iload_n 3, 1) := by decide +kernel
theorem dX9_feed_32 : decode cX9_feed 32 = .ok (.invokevirtual 14, 3) := by decide +kernel
theorem dX9_feed_35 : decode cX9_feed 35 = .ok (.aload_n 0, 1) := by decide +kernel
theorem dX9_feed_36 : decode cX9_feed 36 = .ok (.iload 4, 2) := by decide +kernel
theorem dX9_feed_38 : decode cX9_feed 38 = .ok (.invokevirtual 14, 3) := by decide +kernel
theorem dX9_feed_41 : decode cX9_feed 41 = .ok (.aload_n 0, 1) := by decide +kernel
theorem dX9_feed_42 : decode cX9_feed 42 = .ok (.iload 5, 2) := by decide +kernel
theorem dX9_feed_44 : decode cX9_feed 44 = .ok (.invokevirtual 14, 3) := by decide +kernel
theorem dX9_feed_47 : decode cX9_feed 47 = .ok (.aload_n 0, 1) := by decide +kernel
theorem dX9_feed_48 : decode cX9_feed 48 = .ok (.getfield 11, 3) := by decide +kernel
theorem dX9_feed_51 : decode cX9_feed 51 = .ok (.ireturn, 1) := by decide +kernel
theorem dX9_end_0 : decode cX9_end 0 = .ok (.aload_n 0, 1) := by decide +kernel
theorem dX9_end_1 : decode cX9_end 1 = .ok (.iconst 0, 1) := by decide +kernel
theorem dX9_end_2 : decode cX9_end 2 = .ok (.putfield 1, 3) := by decide +kernel
theorem dX9_end_5 : decode cX9_end 5 = .ok (.iload_n 1, 1) := by decide +kernel
theorem dX9_end_6 : decode cX9_end 6 = .ok (.ifCond .lt 11, 3) := by decide +kernel
theorem dX9_end_9 : decode cX9_end 9 = .ok (.iload_n 1, 1) := by decide +kernel
theorem dX9_end_10 : decode cX9_end 10 = .ok (.aload_n 0, 1) := by decide +kernel
theorem dX9_end_11 : decode cX9_end 11 = .ok (.getfield 11, 3) := by decide +kernel
theorem dX9_end_14 : decode cX9_end 14 = .ok (.if_icmp .le 5, 3) := by decide +kernel
theorem dX9_end_17 : decode cX9_end 17 = .ok (.iconst 0, 1) := by decide +kernel
theorem dX9_end_18 : decode cX9_end 18 = .ok (.ireturn, 1) := by decide +kernel
theorem dX9_end_19 : decode cX9_end 19 = .ok (.aload_n 0, 1) := by decide +kernel
theorem dX9_end_20 : decode cX9_end 20 = .ok (.iload_n 1, 1) := by decide +kernel
theorem dX9_end_21 : decode cX9_end 21 = .ok (.putfield 11, 3) := by decide +kernel
theorem dX9_end_24 : decode cX9_end 24 = .ok (.iconst 1, 1) := by decide +kernel
theorem dX9_end_25 : decode cX9_end 25 = .ok (.ireturn, 1) := by decide +kernel
theorem dX9_tapeAt_0 : decode cX9_tapeAt 0 = .ok (.iload_n 1, 1) := by decide +kernel
theorem dX9_tapeAt_1 : decode cX9_tapeAt 1 = .ok (.aload_n 0, 1) := by decide +kernel
theorem dX9_tapeAt_2 : decode cX9_tapeAt 2 = .ok (.getfield 18, 3) := by decide +kernel
theorem dX9_tapeAt_5 : decode cX9_tapeAt 5 = .ok (.if_icmp .ge 12, 3) := by decide +kernel
theorem dX9_tapeAt_8 : decode cX9_tapeAt 8 = .ok (.aload_n 0, 1) := by decide +kernel
theorem dX9_tapeAt_9 : decode cX9_tapeAt 9 = .ok (.getfield 7, 3) := by decide +kernel
theorem dX9_tapeAt_12 : decode cX9_tapeAt 12 = .ok (.iload_n 1, 1) := by decide +kernel
theorem dX9_tapeAt_13 : decode cX9_tapeAt 13 = .ok (.iaload, 1) := by decide +kernel
theorem dX9_tapeAt_14 : decode cX9_tapeAt 14 = .ok (.goto 4, 3) := by decide +kernel
theorem dX9_tapeAt_17 : decode cX9_tapeAt 17 = .ok (.iconst 0, 1) := by decide +kernel
theorem dX9_tapeAt_18 : decode cX9_tapeAt 18 = .ok (.ireturn, 1) := by decide +kernel
theorem dX9_isDigit_0 : decode cX9_isDigit 0 = .ok (.iload_n 0, 1) := by decide +kernel
theorem dX9_isDigit_1 : decode cX9_isDigit 1 = .ok (.bipush 48, 2) := by decide +kernel
theorem dX9_isDigit_3 : decode cX9_isDigit 3 = .ok (.if_icmp .lt 13, 3) := by decide +kernel
theorem dX9_isDigit_6 : decode cX9_isDigit 6 = .ok (.iload_n 0, 1) := by decide +kernel
theorem dX9_isDigit_7 : decode cX9_isDigit 7 = .ok (.bipush 57, 2) := by decide +kernel
theorem dX9_isDigit_9 : decode cX9_isDigit 9 = .ok (.if_icmp .gt 7, 3) := by decide +kernel
theorem dX9_isDigit_12 : decode cX9_isDigit 12 = .ok (.iconst 1, 1) := by decide +kernel
theorem dX9_isDigit_13 : decode cX9_isDigit 13 = .ok (.goto 4, 3) := by decide +kernel
theorem dX9_isDigit_16 : decode cX9_isDigit 16 = .ok (.iconst 0, 1) := by decide +kernel
theorem dX9_isDigit_17 : decode cX9_isDigit 17 = .ok (.ireturn, 1) := by decide +kernel
theorem dX9_isLetter_0 : decode cX9_isLetter 0 = .ok (.iload_n 0, 1) := by decide +kernel
theorem dX9_isLetter_1 : decode cX9_isLetter 1 = .ok (.bipush 97, 2) := by decide +kernel
theorem dX9_isLetter_3 : decode cX9_isLetter 3 = .ok (.if_icmp .lt 13, 3) := by decide +kernel
theorem dX9_isLetter_6 : decode cX9_isLetter 6 = .ok (.iload_n 0, 1) := by decide +kernel
theorem dX9_isLetter_7 : decode cX9_isLetter 7 = .ok (.bipush 122, 2) := by decide +kernel
theorem dX9_isLetter_9 : decode cX9_isLetter 9 = .ok (.if_icmp .gt 7, 3) := by decide +kernel
theorem dX9_isLetter_12 : decode cX9_isLetter 12 = .ok (.iconst 1, 1) := by decide +kernel
theorem dX9_isLetter_13 : decode cX9_isLetter 13 = .ok (.goto 4, 3) := by decide +kernel
theorem dX9_isLetter_16 : decode cX9_isLetter 16 = .ok (.iconst 0, 1) := by decide +kernel
theorem dX9_isLetter_17 : decode cX9_isLetter 17 = .ok (.ireturn, 1) := by decide +kernel
theorem dX9_go_0 : decode cX9_go 0 = .ok (.aload_n 0, 1) := by decide +kernel
theorem dX9_go_1 : decode cX9_go 1 = .ok (.getfield 21, 3) := by decide +kernel
theorem dX9_go_4 : decode cX9_go 4 = .ok (.aload_n 0, 1) := by decide +kernel
theorem dX9_go_5 : decode cX9_go 5 = .ok (.getfield 18, 3) := by decide +kernel
theorem dX9_go_8 : decode cX9_go 8 = .ok (.if_icmp .ge 44, 3) := by decide +kernel
theorem dX9_go_11 : decode cX9_go 11 = .ok (.aload_n 0, 1) := by decide +kernel
theorem dX9_go_12 : decode cX9_go 12 = .ok (.getfield 7, 3) := by decide +kernel
theorem dX9_go_15 : decode cX9_go 15 = .ok (.aload_n 0, 1) := by decide +kernel
theorem dX9_go_16 : decode cX9_go 16 = .ok (.getfield 21, 3) := by decide +kernel
theorem dX9_go_19 : decode cX9_go 19 = .ok (.iaload, 1) := by decide +kernel
theorem dX9_go_20 : decode cX9_go 20 = .ok (.bipush 32, 2) := by decide +kernel
theorem dX9_go_22 : decode cX9_go 22 = .ok (.if_icmp .eq 17, 3) := by decide +kernel
theorem dX9_go_25 : decode cX9_go 25 = .ok (.aload_n 0, 1) := by decide +kernel
theorem dX9_go_26 : decode cX9_go 26 = .ok (.getfield 7, 3) := by decide +kernel
theorem dX9_go_29 : decode cX9_go 29 = .ok (.aload_n 0, 1) := by decide +kernel
theorem dX9_go_30 : decode cX9_go 30 = .ok (.getfield 21, 3) := by decide +kernel
theorem dX9_go_33 : decode cX9_go 33 = .ok (.iaload, 1) := by decide +kernel
theorem dX9_go_34 : decode cX9_go 34 = .ok (.bipush 10, 2) := by decide +kernel
theorem dX9_go_36 : decode cX9_go 36 = .ok (.if_icmp .ne 16, 3) := by decide +kernel
theorem dX9_go_39 : decode cX9_go 39 = .ok (.aload_n 0, 1) := by decide +kernel
theorem dX9_go_40 : decode cX9_go 40 = .ok (.dup, 1) := by decide +kernel
theorem dX9_go_41 : decode cX9_go 41 = .ok (.getfield 21, 3) := by decide +kernel
theorem dX9_go_44 : decode cX9_go 44 = .ok (.iconst 1, 1) := by decide +kernel
theorem dX9_go_45 : decode cX9_go 45 = .ok (.iadd, 1) := by decide +kernel
theorem dX9_go_46 : decode cX9_go 46 = .ok (.putfield 21, 3) := by decide +kernel
theorem dX9_go_49 : decode cX9_go 49 = .ok (.goto (-49), 3) := by decide +kernel
theorem dX9_go_52 : decode cX9_go 52 = .ok (.aload_n 0, 1) := by decide +kernel
theorem dX9_go_53 : decode cX9_go 53 = .ok (.aload_n 0, 1) := by decide +kernel
theorem dX9_go_54 : decode cX9_go 54 = .ok (.getfield 21, 3) := by decide +kernel
theorem dX9_go_57 : decode cX9_go 57 = .ok (.putfield 24, 3) := by decide +kernel
theorem dX9_go_60 : decode cX9_go 60 = .ok (.aload_n 0, 1) := by decide +kernel
theorem dX9_go_61 : decode cX9_go 61 = .ok (.getfield 18, 3) := by decide +kernel
theorem dX9_go_64 : decode cX9_go 64 = .ok (.sipush 600, 3) := by decide +kernel
theorem dX9_go_67 : decode cX9_go 67 = .ok (.if_icmp .le 26, 3) := by decide +kernel
theorem dX9_go_70 : decode cX9_go 70 = .ok (.aload_n 0, 1) := by decide +kernel
theorem dX9_go_71 : decode cX9_go 71 = .ok (.getfield 24, 3) := by decide +kernel
theorem dX9_go_74 : decode cX9_go 74 = .ok (.sipush 600, 3) := by decide +kernel
theorem dX9_go_77 : decode cX9_go 77 = .ok (.if_icmp .lt 16, 3) := by decide +kernel
theorem dX9_go_80 : decode cX9_go 80 = .ok (.aload_n 0, 1) := by decide +kernel
theorem dX9_go_81 : decode cX9_go 81 = .ok (.sipush 600, 3) := by decide +kernel
theorem dX9_go_84 : decode cX9_go 84 = .ok (.putfield 24, 3) := by decide +kernel
theorem dX9_go_87 : decode cX9_go 87 = .ok (.aload_n 0, 1) := by decide +kernel
theorem dX9_go_88 : decode cX9_go 88 = .ok (.iconst 1, 1) := by decide +kernel
theorem dX9_go_89 : decode cX9_go 89 = .ok (.putfield 27, 3) := by decide +kernel
theorem dX9_go_92 : decode cX9_go 92 = .ok (.return_, 1) := by decide +kernel
theorem dX9_go_93 : decode cX9_go 93 = .ok (.aload_n 0, 1) := by decide +kernel
theorem dX9_go_94 : decode cX9_go 94 = .ok (.getfield 21, 3) := by decide +kernel
theorem dX9_go_97 : decode cX9_go 97 = .ok (.aload_n 0, 1) := by decide +kernel
theorem dX9_go_98 : decode cX9_go 98 = .ok (.getfield 18, 3) := by decide +kernel
theorem dX9_go_101 : decode cX9_go 101 = .ok (.if_icmp .lt 9, 3) := by decide +kernel
theorem dX9_go_104 : decode cX9_go 104 = .ok (.aload_n 0, 1) := by decide +kernel
theorem dX9_go_105 : decode cX9_go 105 = .ok (.iconst 0, 1) := by decide +kernel
theorem dX9_go_106 : decode cX9_go 106 = .ok (.putfield 27, 3) := by decide +kernel
theorem dX9_go_109 : decode cX9_go 109 = .ok (.return_, 1) := by decide +kernel
theorem dX9_go_110 : decode cX9_go 110 = .ok (.aload_n 0, 1) := by decide +kernel
theorem dX9_go_111 : decode cX9_go 111 = .ok (.getfield 7, 3) := by decide +kernel
theorem dX9_go_114 : decode cX9_go 114 = .ok (.aload_n 0, 1) := by decide +kernel
theorem dX9_go_115 : decode cX9_go 115 = .ok (.getfield 21, 3) := by decide +kernel
theorem dX9_go_118 : decode cX9_go 118 = .ok (.iaload, 1) := by decide +kernel
theorem dX9_go_119 : decode cX9_go 119 = .ok (.istore_n 1, 1) := by decide +kernel
theorem dX9_go_120 : decode cX9_go 120 = .ok (.iload_n 1, 1) := by decide +kernel
theorem dX9_go_121 : decode cX9_go 121 = .ok (.invokestatic 30, 3) := by decide +kernel
theorem dX9_go_124 : decode cX9_go 124 = .ok (.ifCond .ne 36, 3) := by decide +kernel
theorem dX9_go_127 : decode cX9_go 127 = .ok (.iload_n 1, 1) := by decide +kernel
theorem dX9_go_128 : decode cX9_go 128 = .ok (.invokestatic 34, 3) := by decide +kernel
theorem dX9_go_131 : decode cX9_go 131 = .ok (.ifCond .ne 29, 3) := by decide +kernel
theorem dX9_go_134 : decode cX9_go 134 = .ok (.aload_n 0, 1) := by decide +kernel
theorem dX9_go_135 : decode cX9_go 135 = .ok (.iload_n 1, 1) := by decide +kernel
theorem dX9_go_136 : decode cX9_go 136 = .ok (.bipush 59, 2) := by decide +kernel
theorem dX9_go_138 : decode cX9_go 138 = .ok (.if_icmp .ne 7, 3) := by decide +kernel
theorem dX9_go_141 : decode cX9_go 141 = .ok (.iconst 4, 1) := by decide +kernel
theorem dX9_go_142 : decode cX9_go 142 = .ok (.goto 4, 3) := by decide +kernel
theorem dX9_go_145 : decode cX9_go 145 = .ok (.iconst 1, 1) := by decide +kernel
theorem dX9_go_146 : decode cX9_go 146 = .ok (.putfield 27, 3) := by decide +kernel
theorem dX9_go_149 : decode cX9_go 149 = .ok (.aload_n 0, 1) := by decide +kernel
theorem dX9_go_150 : decode cX9_go 150 = .ok (.dup, 1) := by decide +kernel
theorem dX9_go_151 : decode cX9_go 151 = .ok (.getfield 21, 3) := by decide +kernel
theorem dX9_go_154 : decode cX9_go 154 = .ok (.iconst 1, 1) := by decide +kernel
theorem dX9_go_155 : decode cX9_go 155 = .ok (.iadd, 1) := by decide +kernel
theorem dX9_go_156 : decode cX9_go 156 = .ok (.putfield 21, 3) := by decide +kernel
theorem dX9_go_159 : decode cX9_go 159 = .ok (.return_, 1) := by decide +kernel
theorem dX9_go_160 : decode cX9_go 160 = .ok (.iload_n 1, 1) := by decide +kernel
theorem dX9_go_161 : decode cX9_go 161 = .ok (.invokestatic 30, 3) := by decide +kernel
theorem dX9_go_164 : decode cX9_go 164 = .ok (.istore_n 2, 1) := by decide +kernel
theorem dX9_go_165 : decode cX9_go 165 = .ok (.iconst 1, 1) := by decide +kernel
theorem dX9_go_166 : decode cX9_go 166 = .ok (.istore_n 3, 1) := by decide +kernel
theorem dX9_go_167 : decode cX9_go 167 = .ok (.aload_n 0, 1) := by decide +kernel
theorem dX9_go_168 : decode cX9_go 168 = .ok (.lconst 0, 1) := by decide +kernel
theorem dX9_go_169 : decode cX9_go 169 = .ok (.putfield 37, 3) := by decide +kernel
theorem dX9_go_172 : decode cX9_go 172 = .ok (.aload_n 0, 1) := by decide +kernel
theorem dX9_go_173 : decode cX9_go 173 = .ok (.iconst 0, 1) := by decide +kernel
theorem dX9_go_174 : decode cX9_go 174 = .ok (.putfield 41, 3) := by decide +kernel
theorem dX9_go_177 : decode cX9_go 177 = .ok (.aload_n 0, 1) := by decide +kernel
theorem dX9_go_178 : decode cX9_go 178 = .ok (.aload_n 0, 1) := by decide +kernel
theorem dX9_go_179 : decode cX9_go 179 = .ok (.getfield 21, 3) := by decide +kernel
theorem dX9_go_182 : decode cX9_go 182 = .ok (.invokevirtual 44, 3) := by decide +kernel
theorem dX9_go_185 : decode cX9_go 185 = .ok (.invokestatic 30, 3) := by decide +kernel
theorem dX9_go_188 : decode cX9_go 188 = .ok (.ifCond .ne 17, 3) := by decide +kernel
theorem dX9_go_191 : decode cX9_go 191 = .ok (.aload_n 0, 1) := by decide +kernel
theorem dX9_go_192 : decode cX9_go 192 = .ok (.aload_n 0, 1) := by decide +kernel
theorem dX9_go_193 : decode cX9_go 193 = .ok (.getfield 21, 3) := by decide +kernel
theorem dX9_go_196 : decode cX9_go 196 = .ok (.invokevirtual 44, 3) := by decide +kernel
theorem dX9_go_199 : decode cX9_go 199 = .ok (.invokestatic 34, 3) := by decide +kernel
theorem dX9_go_202 : decode cX9_go 202 = .ok (.ifCond .eq 110, 3) := by decide +kernel
theorem dX9_go_205 : decode cX9_go 205 = .ok (.aload_n 0, 1) := by decide +kernel
theorem dX9_go_206 : decode cX9_go 206 = .ok (.getfield 7, 3) := by decide +kernel
theorem dX9_go_209 : decode cX9_go 209 = .ok (.aload_n 0, 1) := by decide +kernel
theorem dX9_go_210 : decode cX9_go 210 = .ok (.getfield 21, 3) := by decide +kernel
theorem dX9_go_213 : decode cX9_go 213 = .ok (.iaload, 1) := by decide +kernel
theorem dX9_go_214 : decode cX9_go 214 = .ok (.istore 4, 2) := by decide +kernel
theorem dX9_go_216 : decode cX9_go 216 = .ok (.iload_n 3, 1) := by decide +kernel
theorem dX9_go_217 : decode cX9_go 217 = .ok (.ifCond .eq 16, 3) := by decide +kernel
theorem dX9_go_220 : decode cX9_go 220 = .ok (.iload 4, 2) := by decide +kernel
theorem dX9_go_222 : decode cX9_go 222 = .ok (.invokestatic 30, 3) := by decide +kernel
theorem dX9_go_225 : decode cX9_go 225 = .ok (.iload_n 2, 1) := by decide +kernel
theorem dX9_go_226 : decode cX9_go 226 = .ok (.if_icmp .ne 7, 3) := by decide +kernel
theorem dX9_go_229 : decode cX9_go 229 = .ok (.iconst 1, 1) := by decide +kernel
theorem dX9_go_230 : decode cX9_go 230 = .ok (.goto 4, 3) := by decide +kernel
theorem dX9_go_233 : decode cX9_go 233 = .ok (.iconst 0, 1) := by decide +kernel
theorem dX9_go_234 : decode cX9_go 234 = .ok (.istore_n 3, 1) := by decide +kernel
theorem dX9_go_235 : decode cX9_go 235 = .ok (.aload_n 0, 1) := by decide +kernel
theorem dX9_go_236 : decode cX9_go 236 = .ok (.getfield 21, 3) := by decide +kernel
theorem dX9_go_239 : decode cX9_go 239 = .ok (.aload_n 0, 1) := by decide +kernel
theorem dX9_go_240 : decode cX9_go 240 = .ok (.getfield 24, 3) := by decide +kernel
theorem dX9_go_243 : decode cX9_go 243 = .ok (.isub, 1) := by decide +kernel
theorem dX9_go_244 : decode cX9_go 244 = .ok (.bipush 11, 2) := by decide +kernel
theorem dX9_go_246 : decode cX9_go 246 = .ok (.if_icmp .ge 23, 3) := by decide +kernel
theorem dX9_go_249 : decode cX9_go 249 = .ok (.aload_n 0, 1) := by decide +kernel
theorem dX9_go_250 : decode cX9_go 250 = .ok (.ldc2_w 48, 3) := by decide +kernel
theorem dX9_go_253 : decode cX9_go 253 = .ok (.aload_n 0, 1) := by decide +kernel
theorem dX9_go_254 : decode cX9_go 254 = .ok (.getfield 37, 3) := by decide +kernel
theorem dX9_go_257 : decode cX9_go 257 = .ok (.lmul, 1) := by decide +kernel
theorem dX9_go_258 : decode cX9_go 258 = .ok (.iload 4, 2) := by decide +kernel
theorem dX9_go_260 : decode cX9_go 260 = .ok (.i2l, 1) := by decide +kernel
theorem dX9_go_261 : decode cX9_go 261 = .ok (.ladd, 1) := by decide +kernel
theorem dX9_go_262 : decode cX9_go 262 = .ok (.ldc2_w 50, 3) := by decide +kernel
theorem dX9_go_265 : decode cX9_go 265 = .ok (.lsub, 1) := by decide +kernel
theorem dX9_go_266 : decode cX9_go 266 = .ok (.putfield 37, 3) := by decide +kernel
theorem dX9_go_269 : decode cX9_go 269 = .ok (.aload_n 0, 1) := by decide +kernel
theorem dX9_go_270 : decode cX9_go 270 = .ok (.getfield 21, 3) := by decide +kernel
theorem dX9_go_273 : decode cX9_go 273 = .ok (.aload_n 0, 1) := by decide +kernel
theorem dX9_go_274 : decode cX9_go 274 = .ok (.getfield 24, 3) := by decide +kernel
theorem dX9_go_277 : decode cX9_go 277 = .ok (.isub, 1) := by decide +kernel
theorem dX9_go_278 : decode cX9_go 278 = .ok (.iconst 5, 1) := by decide +kernel
theorem dX9_go_279 : decode cX9_go 279 = .ok (.if_icmp .ge 20, 3) := by decide +kernel
theorem dX9_go_282 : decode cX9_go 282 = .ok (.aload_n 0, 1) := by decide +kernel
theorem dX9_go_283 : decode cX9_go 283 = .ok (.bipush 10, 2) := by decide +kernel
theorem dX9_go_285 : decode cX9_go 285 = .ok (.aload_n 0, 1) := by decide +kernel
theorem dX9_go_286 : decode cX9_go 286 = .ok (.getfield 41, 3) := by decide +kernel
theorem dX9_go_289 : decode cX9_go 289 = .ok (.imul, 1) := by decide +kernel
theorem dX9_go_290 : decode cX9_go 290 = .ok (.iload 4, 2) := by decide +kernel
theorem dX9_go_292 : decode cX9_go 292 = .ok (.iadd, 1) := by decide +kernel
theorem dX9_go_293 : decode cX9_go 293 = .ok (.bipush 48, 2) := by decide +kernel
theorem dX9_go_295 : decode cX9_go 295 = .ok (.isub, 1) := by decide +kernel
theorem dX9_go_296 : decode cX9_go 296 = .ok (.putfield 41, 3) := by decide +kernel
theorem dX9_go_299 : decode cX9_go 299 = .ok (.aload_n 0, 1) := by decide +kernel
theorem dX9_go_300 : decode cX9_go 300 = .ok (.dup, 1) := by decide +kernel
theorem dX9_go_301 : decode cX9_go 301 = .ok (.getfield 21, 3) := by decide +kernel
theorem dX9_go_304 : decode cX9_go 304 = .ok (.iconst 1, 1) := by decide +kernel
theorem dX9_go_305 : decode cX9_go 305 = .ok (.iadd, 1) := by decide +kernel
theorem dX9_go_306 : decode cX9_go 306 = .ok (.putfield 21, 3) := by decide +kernel
theorem dX9_go_309 : decode cX9_go 309 = .ok (.goto (-132), 3) := by decide +kernel
theorem dX9_go_312 : decode cX9_go 312 = .ok (.aload_n 0, 1) := by decide +kernel
theorem dX9_go_313 : decode cX9_go 313 = .ok (.iload_n 3, 1) := by decide +kernel
theorem dX9_go_314 : decode cX9_go 314 = .ok (.ifCond .eq 20, 3) := by decide +kernel
theorem dX9_go_317 : decode cX9_go 317 = .ok (.iload_n 2, 1) := by decide +kernel
theorem dX9_go_318 : decode cX9_go 318 = .ok (.ifCond .ne 20, 3) := by decide +kernel
theorem dX9_go_321 : decode cX9_go 321 = .ok (.aload_n 0, 1) := by decide +kernel
theorem dX9_go_322 : decode cX9_go 322 = .ok (.getfield 21, 3) := by decide +kernel
theorem dX9_go_325 : decode cX9_go 325 = .ok (.aload_n 0, 1) := by decide +kernel
theorem dX9_go_326 : decode cX9_go 326 = .ok (.getfield 24, 3) := by decide +kernel
theorem dX9_go_329 : decode cX9_go 329 = .ok (.isub, 1) := by decide +kernel
theorem dX9_go_330 : decode cX9_go 330 = .ok (.iconst 5, 1) := by decide +kernel
theorem dX9_go_331 : decode cX9_go 331 = .ok (.if_icmp .le 7, 3) := by decide +kernel
theorem dX9_go_334 : decode cX9_go 334 = .ok (.iconst 1, 1) := by decide +kernel
theorem dX9_go_335 : decode cX9_go 335 = .ok (.goto 12, 3) := by decide +kernel
theorem dX9_go_338 : decode cX9_go 338 = .ok (.iload_n 2, 1) := by decide +kernel
theorem dX9_go_339 : decode cX9_go 339 = .ok (.ifCond .eq 7, 3) := by decide +kernel
theorem dX9_go_342 : decode cX9_go 342 = .ok (.iconst 2, 1) := by decide +kernel
theorem dX9_go_343 : decode cX9_go 343 = .ok (.goto 4, 3) := by decide +kernel
theorem dX9_go_346 : decode cX9_go 346 = .ok (.iconst 3, 1) := by decide +kernel
theorem dX9_go_347 : decode cX9_go 347 = .ok (.putfield 27, 3) := by decide +kernel
theorem dX9_go_350 : decode cX9_go 350 = .ok (.return_, 1) := by decide +kernel
theorem dX9_two_0 : decode cX9_two 0 = .ok (.ldc2_w 48, 3) := by decide +kernel
theorem dX9_two_3 : decode cX9_two 3 = .ok (.iload_n 0, 1) := by decide +kernel
theorem dX9_two_4 : decode cX9_two 4 = .ok (.i2l, 1) := by decide +kernel
theorem dX9_two_5 : decode cX9_two 5 = .ok (.ldc2_w 50, 3) := by decide +kernel
theorem dX9_two_8 : decode cX9_two 8 = .ok (.lsub, 1) := by decide +kernel
theorem dX9_two_9 : decode cX9_two 9 = .ok (.lmul, 1) := by decide +kernel
theorem dX9_two_10 : decode cX9_two 10 = .ok (.iload_n 1, 1) := by decide +kernel
theorem dX9_two_11 : decode cX9_two 11 = .ok (.i2l, 1) := by decide +kernel
theorem dX9_two_12 : decode cX9_two 12 = .ok (.ladd, 1) := by decide +kernel
theorem dX9_two_13 : decode cX9_two 13 = .ok (.ldc2_w 50, 3) := by decide +kernel
theorem dX9_two_16 : decode cX9_two 16 = .ok (.lsub, 1) := by decide +kernel
theorem dX9_two_17 : decode cX9_two 17 = .ok (.lreturn, 1) := by decide +kernel
theorem dX9_four_0 : decode cX9_four 0 = .ok (.ldc2_w 52, 3) := by decide +kernel
theorem dX9_four_3 : decode cX9_four 3 = .ok (.iload_n 0, 1) := by decide +kernel
theorem dX9_four_4 : decode cX9_four 4 = .ok (.iload_n 1, 1) := by decide +kernel
theorem dX9_four_5 : decode cX9_four 5 = .ok (.invokestatic 54, 3) := by decide +kernel
theorem dX9_four_8 : decode cX9_four 8 = .ok (.lmul, 1) := by decide +kernel
theorem dX9_four_9 : decode cX9_four 9 = .ok (.iload_n 2, 1) := by decide +kernel
theorem dX9_four_10 : decode cX9_four 10 = .ok (.iload_n 3, 1) := by decide +kernel
theorem dX9_four_11 : decode cX9_four 11 = .ok (.invokestatic 54, 3) := by decide +kernel
theorem dX9_four_14 : decode cX9_four 14 = .ok (.ladd, 1) := by decide +kernel
theorem dX9_four_15 : decode cX9_four 15 = .ok (.lreturn, 1) := by decide +kernel
theorem dX9_six_0 : decode cX9_six 0 = .ok (.ldc2_w 52, 3) := by decide +kernel
theorem dX9_six_3 : decode cX9_six 3 = .ok (.iload_n 0, 1) := by decide +kernel
theorem dX9_six_4 : decode cX9_six 4 = .ok (.iload_n 1, 1) := by decide +kernel
theorem dX9_six_5 : decode cX9_six 5 = .ok (.iload_n 2, 1) := by decide +kernel
theorem dX9_six_6 : decode cX9_six 6 = .ok (.iload_n 3, 1) := by decide +kernel
theorem dX9_six_7 : decode cX9_six 7 = .ok (.invokestatic 58, 3) := by decide +kernel
theorem dX9_six_10 : decode cX9_six 10 = .ok (.lmul, 1) := by decide +kernel
theorem dX9_six_11 : decode cX9_six 11 = .ok (.iload 4, 2) := by decide +kernel
theorem dX9_six_13 : decode cX9_six 13 = .ok (.iload 5, 2) := by decide +kernel
theorem dX9_six_15 : decode cX9_six 15 = .ok (.invokestatic 54, 3) := by decide +kernel
theorem dX9_six_18 : decode cX9_six 18 = .ok (.ladd, 1) := by decide +kernel
theorem dX9_six_19 : decode cX9_six 19 = .ok (.lreturn, 1) := by decide +kernel
theorem dX9_isWord_0 : decode cX9_isWord 0 = .ok (.aload_n 0, 1) := by decide +kernel
theorem dX9_isWord_1 : decode cX9_isWord 1 = .ok (.getfield 27, 3) := by decide +kernel
theorem dX9_isWord_4 : decode cX9_isWord 4 = .ok (.iconst 2, 1) := by decide +kernel
theorem dX9_isWord_5 : decode cX9_isWord 5 = .ok (.if_icmp .ne 16, 3) := by decide +kernel
theorem dX9_isWord_8 : decode cX9_isWord 8 = .ok (.aload_n 0, 1) := by decide +kernel
theorem dX9_isWord_9 : decode cX9_isWord 9 = .ok (.getfield 37, 3) := by decide +kernel
theorem dX9_isWord_12 : decode cX9_isWord 12 = .ok (.lload_n 1, 1) := by decide +kernel
theorem dX9_isWord_13 : decode cX9_isWord 13 = .ok (.lcmp, 1) := by decide +kernel
theorem dX9_isWord_14 : decode cX9_isWord 14 = .ok (.ifCond .ne 7, 3) := by decide +kernel
theorem dX9_isWord_17 : decode cX9_isWord 17 = .ok (.iconst 1, 1) := by decide +kernel
theorem dX9_isWord_18 : decode cX9_isWord 18 = .ok (.goto 4, 3) := by decide +kernel
theorem dX9_isWord_21 : decode cX9_isWord 21 = .ok (.iconst 0, 1) := by decide +kernel
theorem dX9_isWord_22 : decode cX9_isWord 22 = .ok (.ireturn, 1) := by decide +kernel
theorem dX9_bad_0 : decode cX9_bad 0 = .ok (.aload_n 0, 1) := by decide +kernel
theorem dX9_bad_1 : decode cX9_bad 1 = .ok (.aload_n 0, 1) := by decide +kernel
theorem dX9_bad_2 : decode cX9_bad 2 = .ok (.getfield 27, 3) := by decide +kernel
theorem dX9_bad_5 : decode cX9_bad 5 = .ok (.iconst 1, 1) := by decide +kernel
theorem dX9_bad_6 : decode cX9_bad 6 = .ok (.if_icmp .ne 7, 3) := by decide +kernel
theorem dX9_bad_9 : decode cX9_bad 9 = .ok (.iconst 1, 1) := by decide +kernel
theorem dX9_bad_10 : decode cX9_bad 10 = .ok (.goto 4, 3) := by decide +kernel
theorem dX9_bad_13 : decode cX9_bad 13 = .ok (.iload_n 1, 1) := by decide +kernel
theorem dX9_bad_14 : decode cX9_bad 14 = .ok (.putfield 62, 3) := by decide +kernel
theorem dX9_bad_17 : decode cX9_bad 17 = .ok (.aload_n 0, 1) := by decide +kernel
theorem dX9_bad_18 : decode cX9_bad 18 = .ok (.aload_n 0, 1) := by decide +kernel
theorem dX9_bad_19 : decode cX9_bad 19 = .ok (.getfield 24, 3) := by decide +kernel
theorem dX9_bad_22 : decode cX9_bad 22 = .ok (.putfield 65, 3) := by decide +kernel
theorem dX9_bad_25 : decode cX9_bad 25 = .ok (.iconst 0, 1) := by decide +kernel
theorem dX9_bad_26 : decode cX9_bad 26 = .ok (.ireturn, 1) := by decide +kernel
theorem dX9_init_0 : decode cX9_init 0 = .ok (.aload_n 0, 1) := by decide +kernel
theorem dX9_init_1 : decode cX9_init 1 = .ok (.invokespecial 68, 3) := by decide +kernel
theorem dX9_init_4 : decode cX9_init 4 = .ok (.aload_n 0, 1) := by decide +kernel
theorem dX9_init_5 : decode cX9_init 5 = .ok (.sipush 640, 3) := by decide +kernel
theorem dX9_init_8 : decode cX9_init 8 = .ok (.newarray .int, 2) := by decide +kernel
theorem dX9_init_10 : decode cX9_init 10 = .ok (.putfield 7, 3) := by decide +kernel
theorem dX9_init_13 : decode cX9_init 13 = .ok (.aload_n 0, 1) := by decide +kernel
theorem dX9_init_14 : decode cX9_init 14 = .ok (.sipush 1395, 3) := by decide +kernel
theorem dX9_init_17 : decode cX9_init 17 = .ok (.newarray .int, 2) := by decide +kernel
theorem dX9_init_19 : decode cX9_init 19 = .ok (.putfield 74, 3) := by decide +kernel
theorem dX9_init_22 : decode cX9_init 22 = .ok (.aload_n 0, 1) := by decide +kernel
theorem dX9_init_23 : decode cX9_init 23 = .ok (.sipush 1395, 3) := by decide +kernel
theorem dX9_init_26 : decode cX9_init 26 = .ok (.newarray .int, 2) := by decide +kernel
theorem dX9_init_28 : decode cX9_init 28 = .ok (.putfield 77, 3) := by decide +kernel
theorem dX9_init_31 : decode cX9_init 31 = .ok (.aload_n 0, 1) := by decide +kernel
theorem dX9_init_32 : decode cX9_init 32 = .ok (.sipush 13950, 3) := by decide +kernel
theorem dX9_init_35 : decode cX9_init 35 = .ok (.newarray .int, 2) := by decide +kernel
theorem dX9_init_37 : decode cX9_init 37 = .ok (.putfield 80, 3) := by decide +kernel
theorem dX9_init_40 : decode cX9_init 40 = .ok (.aload_n 0, 1) := by decide +kernel
theorem dX9_init_41 : decode cX9_init 41 = .ok (.bipush 50, 2) := by decide +kernel
theorem dX9_init_43 : decode cX9_init 43 = .ok (.newarray .int, 2) := by decide +kernel
theorem dX9_init_45 : decode cX9_init 45 = .ok (.putfield 83, 3) := by decide +kernel
theorem dX9_init_48 : decode cX9_init 48 = .ok (.aload_n 0, 1) := by decide +kernel
theorem dX9_init_49 : decode cX9_init 49 = .ok (.bipush 50, 2) := by decide +kernel
theorem dX9_init_51 : decode cX9_init 51 = .ok (.newarray .int, 2) := by decide +kernel
theorem dX9_init_53 : decode cX9_init 53 = .ok (.putfield 86, 3) := by decide +kernel
theorem dX9_init_56 : decode cX9_init 56 = .ok (.aload_n 0, 1) := by decide +kernel
theorem dX9_init_57 : decode cX9_init 57 = .ok (.bipush 40, 2) := by decide +kernel
theorem dX9_init_59 : decode cX9_init 59 = .ok (.newarray .int, 2) := by decide +kernel
theorem dX9_init_61 : decode cX9_init 61 = .ok (.putfield 89, 3) := by decide +kernel
theorem dX9_init_64 : decode cX9_init 64 = .ok (.aload_n 0, 1) := by decide +kernel
theorem dX9_init_65 : decode cX9_init 65 = .ok (.bipush 40, 2) := by decide +kernel
theorem dX9_init_67 : decode cX9_init 67 = .ok (.newarray .int, 2) := by decide +kernel
theorem dX9_init_69 : decode cX9_init 69 = .ok (.putfield 92, 3) := by decide +kernel
theorem dX9_init_72 : decode cX9_init 72 = .ok (.aload_n 0, 1) := by decide +kernel
theorem dX9_init_73 : decode cX9_init 73 = .ok (.bipush 40, 2) := by decide +kernel
theorem dX9_init_75 : decode cX9_init 75 = .ok (.newarray .int, 2) := by decide +kernel
theorem dX9_init_77 : decode cX9_init 77 = .ok (.putfield 95, 3) := by decide +kernel
theorem dX9_init_80 : decode cX9_init 80 = .ok (.aload_n 0, 1) := by decide +kernel
theorem dX9_init_81 : decode cX9_init 81 = .ok (.bipush 40, 2) := by decide +kernel
theorem dX9_init_83 : decode cX9_init 83 = .ok (.newarray .int, 2) := by decide +kernel
theorem dX9_init_85 : decode cX9_init 85 = .ok (.putfield 98, 3) := by decide +kernel
theorem dX9_init_88 : decode cX9_init 88 = .ok (.aload_n 0, 1) := by decide +kernel
theorem dX9_init_89 : decode cX9_init 89 = .ok (.bipush 40, 2) := by decide +kernel
theorem dX9_init_91 : decode cX9_init 91 = .ok (.newarray .int, 2) := by decide +kernel
theorem dX9_init_93 : decode cX9_init 93 = .ok (.putfield 101, 3) := by decide +kernel
theorem dX9_init_96 : decode cX9_init 96 = .ok (.aload_n 0, 1) := by decide +kernel
theorem dX9_init_97 : decode cX9_init 97 = .ok (.bipush 40, 2) := by decide +kernel
theorem dX9_init_99 : decode cX9_init 99 = .ok (.newarray .int, 2) := by decide +kernel
theorem dX9_init_101 : decode cX9_init 101 = .ok (.putfield 104, 3) := by decide +kernel
theorem dX9_init_104 : decode cX9_init 104 = .ok (.aload_n 0, 1) := by decide +kernel
theorem dX9_init_105 : decode cX9_init 105 = .ok (.bipush 40, 2) := by decide +kernel
theorem dX9_init_107 : decode cX9_init 107 = .ok (.newarray .int, 2) := by decide +kernel
theorem dX9_init_109 : decode cX9_init 109 = .ok (.putfield 107, 3) := by decide +kernel
theorem dX9_init_112 : decode cX9_init 112 = .ok (.aload_n 0, 1) := by decide +kernel
theorem dX9_init_113 : decode cX9_init 113 = .ok (.getfield 74, 3) := by decide +kernel
theorem dX9_init_116 : decode cX9_init 116 = .ok (.iconst 2, 1) := by decide +kernel
theorem dX9_init_117 : decode cX9_init 117 = .ok (.iconst 1, 1) := by decide +kernel
theorem dX9_init_118 : decode cX9_init 118 = .ok (.iastore, 1) := by decide +kernel
theorem dX9_init_119 : decode cX9_init 119 = .ok (.return_, 1) := by decide +kernel
theorem dX9_told_0 : decode cX9_told 0 = .ok (.aload_n 0, 1) := by decide +kernel
theorem dX9_told_1 : decode cX9_told 1 = .ok (.getfield 27, 3) := by decide +kernel
theorem dX9_told_4 : decode cX9_told 4 = .ok (.iconst 3, 1) := by decide +kernel
theorem dX9_told_5 : decode cX9_told 5 = .ok (.if_icmp .eq 9, 3) := by decide +kernel
theorem dX9_told_8 : decode cX9_told 8 = .ok (.aload_n 0, 1) := by decide +kernel
theorem dX9_told_9 : decode cX9_told 9 = .ok (.iconst 1, 1) := by decide +kernel
theorem dX9_told_10 : decode cX9_told 10 = .ok (.invokevirtual 110, 3) := by decide +kernel
theorem dX9_told_13 : decode cX9_told 13 = .ok (.ireturn, 1) := by decide +kernel
theorem dX9_told_14 : decode cX9_told 14 = .ok (.aload_n 0, 1) := by decide +kernel
theorem dX9_told_15 : decode cX9_told 15 = .ok (.getfield 41, 3) := by decide +kernel
theorem dX9_told_18 : decode cX9_told 18 = .ok (.iload_n 2, 1) := by decide +kernel
theorem dX9_told_19 : decode cX9_told 19 = .ok (.iload_n 3, 1) := by decide +kernel
theorem dX9_told_20 : decode cX9_told 20 = .ok (.invokestatic 113, 3) := by decide +kernel
theorem dX9_told_23 : decode cX9_told 23 = .ok (.ifCond .ne 9, 3) := by decide +kernel
theorem dX9_told_26 : decode cX9_told 26 = .ok (.aload_n 0, 1) := by decide +kernel
theorem dX9_told_27 : decode cX9_told 27 = .ok (.iconst 2, 1) := by decide +kernel
theorem dX9_told_28 : decode cX9_told 28 = .ok (.invokevirtual 110, 3) := by decide +kernel
theorem dX9_told_31 : decode cX9_told 31 = .ok (.ireturn, 1) := by decide +kernel
theorem dX9_told_32 : decode cX9_told 32 = .ok (.aload_n 0, 1) := by decide +kernel
theorem dX9_told_33 : decode cX9_told 33 = .ok (.getfield 77, 3) := by decide +kernel
theorem dX9_told_36 : decode cX9_told 36 = .ok (.iload_n 1, 1) := by decide +kernel
theorem dX9_told_37 : decode cX9_told 37 = .ok (.aload_n 0, 1) := by decide +kernel
theorem dX9_told_38 : decode cX9_told 38 = .ok (.getfield 41, 3) := by decide +kernel
theorem dX9_told_41 : decode cX9_told 41 = .ok (.iastore, 1) := by decide +kernel
theorem dX9_told_42 : decode cX9_told 42 = .ok (.aload_n 0, 1) := by decide +kernel
theorem dX9_told_43 : decode cX9_told 43 = .ok (.invokevirtual 117, 3) := by decide +kernel
theorem dX9_told_46 : decode cX9_told 46 = .ok (.iconst 1, 1) := by decide +kernel
theorem dX9_told_47 : decode cX9_told 47 = .ok (.ireturn, 1) := by decide +kernel
theorem dX9_takes_0 : decode cX9_takes 0 = .ok (.aload_n 0, 1) := by decide +kernel
theorem dX9_takes_1 : decode cX9_takes 1 = .ok (.getfield 27, 3) := by decide +kernel
theorem dX9_takes_4 : decode cX9_takes 4 = .ok (.iconst 3, 1) := by decide +kernel
theorem dX9_takes_5 : decode cX9_takes 5 = .ok (.if_icmp .eq 9, 3) := by decide +kernel
theorem dX9_takes_8 : decode cX9_takes 8 = .ok (.aload_n 0, 1) := by decide +kernel
theorem dX9_takes_9 : decode cX9_takes 9 = .ok (.iconst 1, 1) := by decide +kernel
theorem dX9_takes_10 : decode cX9_takes 10 = .ok (.invokevirtual 110, 3) := by decide +kernel
theorem dX9_takes_13 : decode cX9_takes 13 = .ok (.ireturn, 1) := by decide +kernel
theorem dX9_takes_14 : decode cX9_takes 14 = .ok (.aload_n 0, 1) := by decide +kernel
theorem dX9_takes_15 : decode cX9_takes 15 = .ok (.getfield 41, 3) := by decide +kernel
theorem dX9_takes_18 : decode cX9_takes 18 = .ok (.iload_n 1, 1) := by decide +kernel
theorem dX9_takes_19 : decode cX9_takes 19 = .ok (.iload_n 2, 1) := by decide +kernel
theorem dX9_takes_20 : decode cX9_takes 20 = .ok (.invokestatic 113, 3) := by decide +kernel
theorem dX9_takes_23 : decode cX9_takes 23 = .ok (.ifCond .ne 9, 3) := by decide +kernel
theorem dX9_takes_26 : decode cX9_takes 26 = .ok (.aload_n 0, 1) := by decide +kernel
theorem dX9_takes_27 : decode cX9_takes 27 = .ok (.iconst 2, 1) := by decide +kernel
theorem dX9_takes_28 : decode cX9_takes 28 = .ok (.invokevirtual 110, 3) := by decide +kernel
theorem dX9_takes_31 : decode cX9_takes 31 = .ok (.ireturn, 1) := by decide +kernel
theorem dX9_takes_32 : decode cX9_takes 32 = .ok (.aload_n 0, 1) := by decide +kernel
theorem dX9_takes_33 : decode cX9_takes 33 = .ok (.aload_n 0, 1) := by decide +kernel
theorem dX9_takes_34 : decode cX9_takes 34 = .ok (.getfield 41, 3) := by decide +kernel
theorem dX9_takes_37 : decode cX9_takes 37 = .ok (.putfield 120, 3) := by decide +kernel
theorem dX9_takes_40 : decode cX9_takes 40 = .ok (.aload_n 0, 1) := by decide +kernel
theorem dX9_takes_41 : decode cX9_takes 41 = .ok (.invokevirtual 117, 3) := by decide +kernel
theorem dX9_takes_44 : decode cX9_takes 44 = .ok (.iconst 1, 1) := by decide +kernel
theorem dX9_takes_45 : decode cX9_takes 45 = .ok (.ireturn, 1) := by decide +kernel
theorem dX9_readEnd_0 : decode cX9_readEnd 0 = .ok (.aload_n 0, 1) := by decide +kernel
theorem dX9_readEnd_1 : decode cX9_readEnd 1 = .ok (.getfield 27, 3) := by decide +kernel
theorem dX9_readEnd_4 : decode cX9_readEnd 4 = .ok (.iconst 4, 1) := by decide +kernel
theorem dX9_readEnd_5 : decode cX9_readEnd 5 = .ok (.if_icmp .eq 9, 3) := by decide +kernel
theorem dX9_readEnd_8 : decode cX9_readEnd 8 = .ok (.aload_n 0, 1) := by decide +kernel
theorem dX9_readEnd_9 : decode cX9_readEnd 9 = .ok (.iconst 1, 1) := by decide +kernel
theorem dX9_readEnd_10 : decode cX9_readEnd 10 = .ok (.invokevirtual 110, 3) := by decide +kernel
theorem dX9_readEnd_13 : decode cX9_readEnd 13 = .ok (.ireturn, 1) := by decide +kernel
theorem dX9_readEnd_14 : decode cX9_readEnd 14 = .ok (.aload_n 0, 1) := by decide +kernel
theorem dX9_readEnd_15 : decode cX9_readEnd 15 = .ok (.invokevirtual 117, 3) := by decide +kernel
theorem dX9_readEnd_18 : decode cX9_readEnd 18 = .ok (.iconst 1, 1) := by decide +kernel
theorem dX9_readEnd_19 : decode cX9_readEnd 19 = .ok (.ireturn, 1) := by decide +kernel
theorem dX9_setRates_0 : decode cX9_setRates 0 = .ok (.iload_n 2, 1) := by decide +kernel
theorem dX9_setRates_1 : decode cX9_setRates 1 = .ok (.istore 4, 2) := by decide +kernel
theorem dX9_setRates_3 : decode cX9_setRates 3 = .ok (.iload 4, 2) := by decide +kernel
theorem dX9_setRates_5 : decode cX9_setRates 5 = .ok (.bipush 40, 2) := by decide +kernel
theorem dX9_setRates_7 : decode cX9_setRates 7 = .ok (.if_icmp .ge 21, 3) := by decide +kernel
theorem dX9_setRates_10 : decode cX9_setRates 10 = .ok (.aload_n 0, 1) := by decide +kernel
theorem dX9_setRates_11 : decode cX9_setRates 11 = .ok (.iconst 5, 1) := by decide +kernel
theorem dX9_setRates_12 : decode cX9_setRates 12 = .ok (.bipush 40, 2) := by decide +kernel
theorem dX9_setRates_14 : decode cX9_setRates 14 = .ok (.iload_n 1, 1) := by decide +kernel
theorem dX9_setRates_15 : decode cX9_setRates 15 = .ok (.imul, 1) := by decide +kernel
theorem dX9_setRates_16 : decode cX9_setRates 16 = .ok (.iadd, 1) := by decide +kernel
theorem dX9_setRates_17 : decode cX9_setRates 17 = .ok (.iload 4, 2) := by decide +kernel
theorem dX9_setRates_19 : decode cX9_setRates 19 = .ok (.iadd, 1) := by decide +kernel
theorem dX9_setRates_20 : decode cX9_setRates 20 = .ok (.iload_n 3, 1) := by decide +kernel
theorem dX9_setRates_21 : decode cX9_setRates 21 = .ok (.iastore, 1) := by decide +kernel
theorem dX9_setRates_22 : decode cX9_setRates 22 = .ok (.iinc 4 1, 3) := by decide +kernel
theorem dX9_setRates_25 : decode cX9_setRates 25 = .ok (.goto (-22), 3) := by decide +kernel
theorem dX9_setRates_28 : decode cX9_setRates 28 = .ok (.return_, 1) := by decide +kernel
theorem dX9_isOfficeWord_0 : decode cX9_isOfficeWord 0 = .ok (.aload_n 0, 1) := by decide +kernel
theorem dX9_isOfficeWord_1 : decode cX9_isOfficeWord 1 = .ok (.bipush 111, 2) := by decide +kernel
theorem dX9_isOfficeWord_3 : decode cX9_isOfficeWord 3 = .ok (.bipush 102, 2) := by decide +kernel
theorem dX9_isOfficeWord_5 : decode cX9_isOfficeWord 5 = .ok (.bipush 102, 2) := by decide +kernel
theorem dX9_isOfficeWord_7 : decode cX9_isOfficeWord 7 = .ok (.bipush 105, 2) := by decide +kernel
theorem dX9_isOfficeWord_9 : decode cX9_isOfficeWord 9 = .ok (.bipush 99, 2) := by decide +kernel
theorem dX9_isOfficeWord_11 : decode cX9_isOfficeWord 11 = .ok (.bipush 101, 2) := by decide +kernel
theorem dX9_isOfficeWord_13 : decode cX9_isOfficeWord 13 = .ok (.invokestatic 123, 3) := by decide +kernel
theorem dX9_isOfficeWord_16 : decode cX9_isOfficeWord 16 = .ok (.invokevirtual 127, 3) := by decide +kernel
theorem dX9_isOfficeWord_19 : decode cX9_isOfficeWord 19 = .ok (.ireturn, 1) := by decide +kernel
theorem dX9_readOffice_0 : decode cX9_readOffice 0 = .ok (.aload_n 0, 1) := by decide +kernel
theorem dX9_readOffice_1 : decode cX9_readOffice 1 = .ok (.invokevirtual 131, 3) := by decide +kernel
theorem dX9_readOffice_4 : decode cX9_readOffice 4 = .ok (.ifCond .ne 9, 3) := by decide +kernel
theorem dX9_readOffice_7 : decode cX9_readOffice 7 = .ok (.aload_n 0, 1) := by decide +kernel
theorem dX9_readOffice_8 : decode cX9_readOffice 8 = .ok (.iconst 1, 1) := by decide +kernel
theorem dX9_readOffice_9 : decode cX9_readOffice 9 = .ok (.invokevirtual 110, 3) := by decide +kernel
theorem dX9_readOffice_12 : decode cX9_readOffice 12 = .ok (.ireturn, 1) := by decide +kernel
theorem dX9_readOffice_13 : decode cX9_readOffice 13 = .ok (.aload_n 0, 1) := by decide +kernel
theorem dX9_readOffice_14 : decode cX9_readOffice 14 = .ok (.getfield 77, 3) := by decide +kernel
theorem dX9_readOffice_17 : decode cX9_readOffice 17 = .ok (.iconst 2, 1) := by decide +kernel
theorem dX9_readOffice_18 : decode cX9_readOffice 18 = .ok (.iaload, 1) := by decide +kernel
theorem dX9_readOffice_19 : decode cX9_readOffice 19 = .ok (.iconst 3, 1) := by decide +kernel
theorem dX9_readOffice_20 : decode cX9_readOffice 20 = .ok (.if_icmp .ne 9, 3) := by decide +kernel
theorem dX9_readOffice_23 : decode cX9_readOffice 23 = .ok (.aload_n 0, 1) := by decide +kernel
theorem dX9_readOffice_24 : decode cX9_readOffice 24 = .ok (.iconst 3, 1) := by decide +kernel
theorem dX9_readOffice_25 : decode cX9_readOffice 25 = .ok (.invokevirtual 110, 3) := by decide +kernel
theorem dX9_readOffice_28 : decode cX9_readOffice 28 = .ok (.ireturn, 1) := by decide +kernel
theorem dX9_readOffice_29 : decode cX9_readOffice 29 = .ok (.aload_n 0, 1) := by decide +kernel
theorem dX9_readOffice_30 : decode cX9_readOffice 30 = .ok (.invokevirtual 117, 3) := by decide +kernel
theorem dX9_readOffice_33 : decode cX9_readOffice 33 = .ok (.aload_n 0, 1) := by decide +kernel
theorem dX9_readOffice_34 : decode cX9_readOffice 34 = .ok (.iconst 0, 1) := by decide +kernel
theorem dX9_readOffice_35 : decode cX9_readOffice 35 = .ok (.sipush 900, 3) := by decide +kernel
theorem dX9_readOffice_38 : decode cX9_readOffice 38 = .ok (.invokevirtual 135, 3) := by decide +kernel
theorem dX9_readOffice_41 : decode cX9_readOffice 41 = .ok (.ifCond .ne 5, 3) := by decide +kernel
theorem dX9_readOffice_44 : decode cX9_readOffice 44 = .ok (.iconst 0, 1) := by decide +kernel
theorem dX9_readOffice_45 : decode cX9_readOffice 45 = .ok (.ireturn, 1) := by decide +kernel
theorem dX9_readOffice_46 : decode cX9_readOffice 46 = .ok (.aload_n 0, 1) := by decide +kernel
theorem dX9_readOffice_47 : decode cX9_readOffice 47 = .ok (.getfield 77, 3) := by decide +kernel
theorem dX9_readOffice_50 : decode cX9_readOffice 50 = .ok (.aload_n 0, 1) := by decide +kernel
theorem dX9_readOffice_51 : decode cX9_readOffice 51 = .ok (.getfield 77, 3) := by decide +kernel
theorem dX9_readOffice_54 : decode cX9_readOffice 54 = .ok (.iconst 2, 1) := by decide +kernel
theorem dX9_readOffice_55 : decode cX9_readOffice 55 = .ok (.iaload, 1) := by decide +kernel
theorem dX9_readOffice_56 : decode cX9_readOffice 56 = .ok (.iconst 0, 1) := by decide +kernel
theorem dX9_readOffice_57 : decode cX9_readOffice 57 = .ok (.aload_n 0, 1) := by decide +kernel
theorem dX9_readOffice_58 : decode cX9_readOffice 58 = .ok (.getfield 120, 3) := by decide +kernel
theorem dX9_readOffice_61 : decode cX9_readOffice 61 = .ok (.invokestatic 139, 3) := by decide +kernel
theorem dX9_readOffice_64 : decode cX9_readOffice 64 = .ok (.aload_n 0, 1) := by decide +kernel
theorem dX9_readOffice_65 : decode cX9_readOffice 65 = .ok (.getfield 77, 3) := by decide +kernel
theorem dX9_readOffice_68 : decode cX9_readOffice 68 = .ok (.iconst 2, 1) := by decide +kernel
theorem dX9_readOffice_69 : decode cX9_readOffice 69 = .ok (.dup2, 1) := by decide +kernel
theorem dX9_readOffice_70 : decode cX9_readOffice 70 = .ok (.iaload, 1) := by decide +kernel
theorem dX9_readOffice_71 : decode cX9_readOffice 71 = .ok (.iconst 1, 1) := by decide +kernel
theorem dX9_readOffice_72 : decode cX9_readOffice 72 = .ok (.iadd, 1) := by decide +kernel
theorem dX9_readOffice_73 : decode cX9_readOffice 73 = .ok (.iastore, 1) := by decide +kernel
theorem dX9_readOffice_74 : decode cX9_readOffice 74 = .ok (.aload_n 0, 1) := by decide +kernel
theorem dX9_readOffice_75 : decode cX9_readOffice 75 = .ok (.invokevirtual 143, 3) := by decide +kernel
theorem dX9_readOffice_78 : decode cX9_readOffice 78 = .ok (.ireturn, 1) := by decide +kernel
theorem dX9_readOfYear_0 : decode cX9_readOfYear 0 = .ok (.aload_n 0, 1) := by decide +kernel
theorem dX9_readOfYear_1 : decode cX9_readOfYear 1 = .ok (.invokevirtual 117, 3) := by decide +kernel
theorem dX9_readOfYear_4 : decode cX9_readOfYear 4 = .ok (.aload_n 0, 1) := by decide +kernel
theorem dX9_readOfYear_5 : decode cX9_readOfYear 5 = .ok (.iconst 0, 1) := by decide +kernel
theorem dX9_readOfYear_6 : decode cX9_readOfYear 6 = .ok (.aload_n 0, 1) := by decide +kernel
theorem dX9_readOfYear_7 : decode cX9_readOfYear 7 = .ok (.getfield 77, 3) := by decide +kernel
theorem dX9_readOfYear_10 : decode cX9_readOfYear 10 = .ok (.iconst 2, 1) := by decide +kernel
theorem dX9_readOfYear_11 : decode cX9_readOfYear 11 = .ok (.iaload, 1) := by decide +kernel
theorem dX9_readOfYear_12 : decode cX9_readOfYear 12 = .ok (.iconst 1, 1) := by decide +kernel
theorem dX9_readOfYear_13 : decode cX9_readOfYear 13 = .ok (.isub, 1) := by decide +kernel
theorem dX9_readOfYear_14 : decode cX9_readOfYear 14 = .ok (.invokevirtual 135, 3) := by decide +kernel
theorem dX9_readOfYear_17 : decode cX9_readOfYear 17 = .ok (.ifCond .ne 5, 3) := by decide +kernel
theorem dX9_readOfYear_20 : decode cX9_readOfYear 20 = .ok (.iconst 0, 1) := by decide +kernel
theorem dX9_readOfYear_21 : decode cX9_readOfYear 21 = .ok (.ireturn, 1) := by decide +kernel
theorem dX9_readOfYear_22 : decode cX9_readOfYear 22 = .ok (.aload_n 0, 1) := by decide +kernel
theorem dX9_readOfYear_23 : decode cX9_readOfYear 23 = .ok (.getfield 120, 3) := by decide +kernel
theorem dX9_readOfYear_26 : decode cX9_readOfYear 26 = .ok (.istore_n 2, 1) := by decide +kernel
theorem dX9_readOfYear_27 : decode cX9_readOfYear 27 = .ok (.aload_n 0, 1) := by decide +kernel
theorem dX9_readOfYear_28 : decode cX9_readOfYear 28 = .ok (.iconst 0, 1) := by decide +kernel
theorem dX9_readOfYear_29 : decode cX9_readOfYear 29 = .ok (.bipush 39, 2) := by decide +kernel
theorem dX9_readOfYear_31 : decode cX9_readOfYear 31 = .ok (.invokevirtual 135, 3) := by decide +kernel
theorem dX9_readOfYear_34 : decode cX9_readOfYear 34 = .ok (.ifCond .ne 5, 3) := by decide +kernel
theorem dX9_readOfYear_37 : decode cX9_readOfYear 37 = .ok (.iconst 0, 1) := by decide +kernel
theorem dX9_readOfYear_38 : decode cX9_readOfYear 38 = .ok (.ireturn, 1) := by decide +kernel
theorem dX9_readOfYear_39 : decode cX9_readOfYear 39 = .ok (.aload_n 0, 1) := by decide +kernel
theorem dX9_readOfYear_40 : decode cX9_readOfYear 40 = .ok (.getfield 120, 3) := by decide +kernel
theorem dX9_readOfYear_43 : decode cX9_readOfYear 43 = .ok (.istore_n 3, 1) := by decide +kernel
theorem dX9_readOfYear_44 : decode cX9_readOfYear 44 = .ok (.iload_n 1, 1) := by decide +kernel
theorem dX9_readOfYear_45 : decode cX9_readOfYear 45 = .ok (.ifCond .eq 17, 3) := by decide +kernel
theorem dX9_readOfYear_48 : decode cX9_readOfYear 48 = .ok (.aload_n 0, 1) := by decide +kernel
theorem dX9_readOfYear_49 : decode cX9_readOfYear 49 = .ok (.iconst 0, 1) := by decide +kernel
theorem dX9_readOfYear_50 : decode cX9_readOfYear 50 = .ok (.sipush 900, 3) := by decide +kernel
theorem dX9_readOfYear_53 : decode cX9_readOfYear 53 = .ok (.invokevirtual 135, 3) := by decide +kernel
theorem dX9_readOfYear_56 : decode cX9_readOfYear 56 = .ok (.ifCond .ne 18, 3) := by decide +kernel
theorem dX9_readOfYear_59 : decode cX9_readOfYear 59 = .ok (.goto 13, 3) := by decide +kernel
theorem dX9_readOfYear_62 : decode cX9_readOfYear 62 = .ok (.aload_n 0, 1) := by decide +kernel
theorem dX9_readOfYear_63 : decode cX9_readOfYear 63 = .ok (.iconst 1, 1) := by decide +kernel
theorem dX9_readOfYear_64 : decode cX9_readOfYear 64 = .ok (.ldc 146, 2) := by decide +kernel
theorem dX9_readOfYear_66 : decode cX9_readOfYear 66 = .ok (.invokevirtual 135, 3) := by decide +kernel
theorem dX9_readOfYear_69 : decode cX9_readOfYear 69 = .ok (.ifCond .ne 5, 3) := by decide +kernel
theorem dX9_readOfYear_72 : decode cX9_readOfYear 72 = .ok (.iconst 0, 1) := by decide +kernel
theorem dX9_readOfYear_73 : decode cX9_readOfYear 73 = .ok (.ireturn, 1) := by decide +kernel
theorem dX9_readOfYear_74 : decode cX9_readOfYear 74 = .ok (.iload_n 1, 1) := by decide +kernel
theorem dX9_readOfYear_75 : decode cX9_readOfYear 75 = .ok (.ifCond .eq 19, 3) := by decide +kernel
theorem dX9_readOfYear_78 : decode cX9_readOfYear 78 = .ok (.aload_n 0, 1) := by decide +kernel
theorem dX9_readOfYear_79 : decode cX9_readOfYear 79 = .ok (.getfield 77, 3) := by decide +kernel
theorem dX9_readOfYear_82 : decode cX9_readOfYear 82 = .ok (.iload_n 2, 1) := by decide +kernel
theorem dX9_readOfYear_83 : decode cX9_readOfYear 83 = .ok (.iload_n 3, 1) := by decide +kernel
theorem dX9_readOfYear_84 : decode cX9_readOfYear 84 = .ok (.aload_n 0, 1) := by decide +kernel
theorem dX9_readOfYear_85 : decode cX9_readOfYear 85 = .ok (.getfield 120, 3) := by decide +kernel
theorem dX9_readOfYear_88 : decode cX9_readOfYear 88 = .ok (.invokestatic 139, 3) := by decide +kernel
theorem dX9_readOfYear_91 : decode cX9_readOfYear 91 = .ok (.goto 21, 3) := by decide +kernel
theorem dX9_readOfYear_94 : decode cX9_readOfYear 94 = .ok (.aload_n 0, 1) := by decide +kernel
theorem dX9_readOfYear_95 : decode cX9_readOfYear 95 = .ok (.getfield 77, 3) := by decide +kernel
theorem dX9_readOfYear_98 : decode cX9_readOfYear 98 = .ok (.bipush 125, 2) := by decide +kernel
theorem dX9_readOfYear_100 : decode cX9_readOfYear 100 = .ok (.bipush 40, 2) := by decide +kernel
theorem dX9_readOfYear_102 : decode cX9_readOfYear 102 = .ok (.iload_n 2, 1) := by decide +kernel
theorem dX9_readOfYear_103 : decode cX9_readOfYear 103 = .ok (.imul, 1) := by decide +kernel
theorem dX9_readOfYear_104 : decode cX9_readOfYear 104 = .ok (.iadd, 1) := by decide +kernel
theorem dX9_readOfYear_105 : decode cX9_readOfYear 105 = .ok (.iload_n 3, 1) := by decide +kernel
theorem dX9_readOfYear_106 : decode cX9_readOfYear 106 = .ok (.iadd, 1) := by decide +kernel
theorem dX9_readOfYear_107 : decode cX9_readOfYear 107 = .ok (.aload_n 0, 1) := by decide +kernel
theorem dX9_readOfYear_108 : decode cX9_readOfYear 108 = .ok (.getfield 120, 3) := by decide +kernel
theorem dX9_readOfYear_111 : decode cX9_readOfYear 111 = .ok (.iastore, 1) := by decide +kernel
theorem dX9_readOfYear_112 : decode cX9_readOfYear 112 = .ok (.aload_n 0, 1) := by decide +kernel
theorem dX9_readOfYear_113 : decode cX9_readOfYear 113 = .ok (.invokevirtual 143, 3) := by decide +kernel
theorem dX9_readOfYear_116 : decode cX9_readOfYear 116 = .ok (.ireturn, 1) := by decide +kernel
theorem dX9_readItem_0 : decode cX9_readItem 0 = .ok (.aload_n 0, 1) := by decide +kernel
theorem dX9_readItem_1 : decode cX9_readItem 1 = .ok (.getfield 77, 3) := by decide +kernel
theorem dX9_readItem_4 : decode cX9_readItem 4 = .ok (.iconst 3, 1) := by decide +kernel
theorem dX9_readItem_5 : decode cX9_readItem 5 = .ok (.iaload, 1) := by decide +kernel
theorem dX9_readItem_6 : decode cX9_readItem 6 = .ok (.bipush 16, 2) := by decide +kernel
theorem dX9_readItem_8 : decode cX9_readItem 8 = .ok (.if_icmp .ne 9, 3) := by decide +kernel
theorem dX9_readItem_11 : decode cX9_readItem 11 = .ok (.aload_n 0, 1) := by decide +kernel
theorem dX9_readItem_12 : decode cX9_readItem 12 = .ok (.iconst 3, 1) := by decide +kernel
theorem dX9_readItem_13 : decode cX9_readItem 13 = .ok (.invokevirtual 110, 3) := by decide +kernel
theorem dX9_readItem_16 : decode cX9_readItem 16 = .ok (.ireturn, 1) := by decide +kernel
theorem dX9_readItem_17 : decode cX9_readItem 17 = .ok (.aload_n 0, 1) := by decide +kernel
theorem dX9_readItem_18 : decode cX9_readItem 18 = .ok (.invokevirtual 117, 3) := by decide +kernel
theorem dX9_readItem_21 : decode cX9_readItem 21 = .ok (.sipush 245, 3) := by decide +kernel
theorem dX9_readItem_24 : decode cX9_readItem 24 = .ok (.iconst 5, 1) := by decide +kernel
theorem dX9_readItem_25 : decode cX9_readItem 25 = .ok (.aload_n 0, 1) := by decide +kernel
theorem dX9_readItem_26 : decode cX9_readItem 26 = .ok (.getfield 77, 3) := by decide +kernel
theorem dX9_readItem_29 : decode cX9_readItem 29 = .ok (.iconst 3, 1) := by decide +kernel
theorem dX9_readItem_30 : decode cX9_readItem 30 = .ok (.iaload, 1) := by decide +kernel
theorem dX9_readItem_31 : decode cX9_readItem 31 = .ok (.imul, 1) := by decide +kernel
theorem dX9_readItem_32 : decode cX9_readItem 32 = .ok (.iadd, 1) := by decide +kernel
theorem dX9_readItem_33 : decode cX9_readItem 33 = .ok (.istore_n 2, 1) := by decide +kernel
theorem dX9_readItem_34 : decode cX9_readItem 34 = .ok (.aload_n 0, 1) := by decide +kernel
theorem dX9_readItem_35 : decode cX9_readItem 35 = .ok (.iload_n 2, 1) := by decide +kernel
theorem dX9_readItem_36 : decode cX9_readItem 36 = .ok (.iconst 0, 1) := by decide +kernel
theorem dX9_readItem_37 : decode cX9_readItem 37 = .ok (.iadd, 1) := by decide +kernel
theorem dX9_readItem_38 : decode cX9_readItem 38 = .ok (.iconst 0, 1) := by decide +kernel
theorem dX9_readItem_39 : decode cX9_readItem 39 = .ok (.aload_n 0, 1) := by decide +kernel
theorem dX9_readItem_40 : decode cX9_readItem 40 = .ok (.getfield 77, 3) := by decide +kernel
theorem dX9_readItem_43 : decode cX9_readItem 43 = .ok (.iconst 2, 1) := by decide +kernel
theorem dX9_readItem_44 : decode cX9_readItem 44 = .ok (.iaload, 1) := by decide +kernel
theorem dX9_readItem_45 : decode cX9_readItem 45 = .ok (.iconst 1, 1) := by decide +kernel
theorem dX9_readItem_46 : decode cX9_readItem 46 = .ok (.isub, 1) := by decide +kernel
theorem dX9_readItem_47 : decode cX9_readItem 47 = .ok (.invokevirtual 147, 3) := by decide +kernel
theorem dX9_readItem_50 : decode cX9_readItem 50 = .ok (.ifCond .eq 49, 3) := by decide +kernel
theorem dX9_readItem_53 : decode cX9_readItem 53 = .ok (.aload_n 0, 1) := by decide +kernel
theorem dX9_readItem_54 : decode cX9_readItem 54 = .ok (.iload_n 2, 1) := by decide +kernel
theorem dX9_readItem_55 : decode cX9_readItem 55 = .ok (.iconst 2, 1) := by decide +kernel
theorem dX9_readItem_56 : decode cX9_readItem 56 = .ok (.iadd, 1) := by decide +kernel
theorem dX9_readItem_57 : decode cX9_readItem 57 = .ok (.iconst 1, 1) := by decide +kernel
theorem dX9_readItem_58 : decode cX9_readItem 58 = .ok (.ldc 146, 2) := by decide +kernel
theorem dX9_readItem_60 : decode cX9_readItem 60 = .ok (.invokevirtual 147, 3) := by decide +kernel
theorem dX9_readItem_63 : decode cX9_readItem 63 = .ok (.ifCond .eq 36, 3) := by decide +kernel
theorem dX9_readItem_66 : decode cX9_readItem 66 = .ok (.aload_n 0, 1) := by decide +kernel
theorem dX9_readItem_67 : decode cX9_readItem 67 = .ok (.iload_n 2, 1) := by decide +kernel
theorem dX9_readItem_68 : decode cX9_readItem 68 = .ok (.iconst 3, 1) := by decide +kernel
theorem dX9_readItem_69 : decode cX9_readItem 69 = .ok (.iadd, 1) := by decide +kernel
theorem dX9_readItem_70 : decode cX9_readItem 70 = .ok (.iconst 1, 1) := by decide +kernel
theorem dX9_readItem_71 : decode cX9_readItem 71 = .ok (.bipush 39, 2) := by decide +kernel
theorem dX9_readItem_73 : decode cX9_readItem 73 = .ok (.invokevirtual 147, 3) := by decide +kernel
theorem dX9_readItem_76 : decode cX9_readItem 76 = .ok (.ifCond .eq 23, 3) := by decide +kernel
theorem dX9_readItem_79 : decode cX9_readItem 79 = .ok (.aload_n 0, 1) := by decide +kernel
theorem dX9_readItem_80 : decode cX9_readItem 80 = .ok (.iload_n 2, 1) := by decide +kernel
theorem dX9_readItem_81 : decode cX9_readItem 81 = .ok (.iconst 4, 1) := by decide +kernel
theorem dX9_readItem_82 : decode cX9_readItem 82 = .ok (.iadd, 1) := by decide +kernel
theorem dX9_readItem_83 : decode cX9_readItem 83 = .ok (.aload_n 0, 1) := by decide +kernel
theorem dX9_readItem_84 : decode cX9_readItem 84 = .ok (.getfield 77, 3) := by decide +kernel
theorem dX9_readItem_87 : decode cX9_readItem 87 = .ok (.iload_n 2, 1) := by decide +kernel
theorem dX9_readItem_88 : decode cX9_readItem 88 = .ok (.iconst 3, 1) := by decide +kernel
theorem dX9_readItem_89 : decode cX9_readItem 89 = .ok (.iadd, 1) := by decide +kernel
theorem dX9_readItem_90 : decode cX9_readItem 90 = .ok (.iaload, 1) := by decide +kernel
theorem dX9_readItem_91 : decode cX9_readItem 91 = .ok (.bipush 39, 2) := by decide +kernel
theorem dX9_readItem_93 : decode cX9_readItem 93 = .ok (.invokevirtual 147, 3) := by decide +kernel
theorem dX9_readItem_96 : decode cX9_readItem 96 = .ok (.ifCond .ne 5, 3) := by decide +kernel
theorem dX9_readItem_99 : decode cX9_readItem 99 = .ok (.iconst 0, 1) := by decide +kernel
theorem dX9_readItem_100 : decode cX9_readItem 100 = .ok (.ireturn, 1) := by decide +kernel
theorem dX9_readItem_101 : decode cX9_readItem 101 = .ok (.aload_n 0, 1) := by decide +kernel
theorem dX9_readItem_102 : decode cX9_readItem 102 = .ok (.getfield 77, 3) := by decide +kernel
theorem dX9_readItem_105 : decode cX9_readItem 105 = .ok (.iload_n 2, 1) := by decide +kernel
theorem dX9_readItem_106 : decode cX9_readItem 106 = .ok (.iconst 1, 1) := by decide +kernel
theorem dX9_readItem_107 : decode cX9_readItem 107 = .ok (.iadd, 1) := by decide +kernel
theorem dX9_readItem_108 : decode cX9_readItem 108 = .ok (.iload_n 1, 1) := by decide +kernel
theorem dX9_readItem_109 : decode cX9_readItem 109 = .ok (.ifCond .eq 7, 3) := by decide +kernel
theorem dX9_readItem_112 : decode cX9_readItem 112 = .ok (.iconst 1, 1) := by decide +kernel
theorem dX9_readItem_113 : decode cX9_readItem 113 = .ok (.goto 4, 3) := by decide +kernel
theorem dX9_readItem_116 : decode cX9_readItem 116 = .ok (.iconst 0, 1) := by decide +kernel
theorem dX9_readItem_117 : decode cX9_readItem 117 = .ok (.iastore, 1) := by decide +kernel
theorem dX9_readItem_118 : decode cX9_readItem 118 = .ok (.aload_n 0, 1) := by decide +kernel
theorem dX9_readItem_119 : decode cX9_readItem 119 = .ok (.getfield 77, 3) := by decide +kernel
theorem dX9_readItem_122 : decode cX9_readItem 122 = .ok (.iconst 3, 1) := by decide +kernel
theorem dX9_readItem_123 : decode cX9_readItem 123 = .ok (.dup2, 1) := by decide +kernel
theorem dX9_readItem_124 : decode cX9_readItem 124 = .ok (.iaload, 1) := by decide +kernel
theorem dX9_readItem_125 : decode cX9_readItem 125 = .ok (.iconst 1, 1) := by decide +kernel
theorem dX9_readItem_126 : decode cX9_readItem 126 = .ok (.iadd, 1) := by decide +kernel
theorem dX9_readItem_127 : decode cX9_readItem 127 = .ok (.iastore, 1) := by decide +kernel
theorem dX9_readItem_128 : decode cX9_readItem 128 = .ok (.aload_n 0, 1) := by decide +kernel
theorem dX9_readItem_129 : decode cX9_readItem 129 = .ok (.invokevirtual 143, 3) := by decide +kernel
theorem dX9_readItem_132 : decode cX9_readItem 132 = .ok (.ireturn, 1) := by decide +kernel
theorem dX9_readLoss_0 : decode cX9_readLoss 0 = .ok (.aload_n 0, 1) := by decide +kernel
theorem dX9_readLoss_1 : decode cX9_readLoss 1 = .ok (.getfield 77, 3) := by decide +kernel
theorem dX9_readLoss_4 : decode cX9_readLoss 4 = .ok (.iconst 4, 1) := by decide +kernel
theorem dX9_readLoss_5 : decode cX9_readLoss 5 = .ok (.iaload, 1) := by decide +kernel
theorem dX9_readLoss_6 : decode cX9_readLoss 6 = .ok (.bipush 10, 2) := by decide +kernel
theorem dX9_readLoss_8 : decode cX9_readLoss 8 = .ok (.if_icmp .ne 9, 3) := by decide +kernel
theorem dX9_readLoss_11 : decode cX9_readLoss 11 = .ok (.aload_n 0, 1) := by decide +kernel
theorem dX9_readLoss_12 : decode cX9_readLoss 12 = .ok (.iconst 3, 1) := by decide +kernel
theorem dX9_readLoss_13 : decode cX9_readLoss 13 = .ok (.invokevirtual 110, 3) := by decide +kernel
theorem dX9_readLoss_16 : decode cX9_readLoss 16 = .ok (.ireturn, 1) := by decide +kernel
theorem dX9_readLoss_17 : decode cX9_readLoss 17 = .ok (.aload_n 0, 1) := by decide +kernel
theorem dX9_readLoss_18 : decode cX9_readLoss 18 = .ok (.invokevirtual 117, 3) := by decide +kernel
theorem dX9_readLoss_21 : decode cX9_readLoss 21 = .ok (.sipush 395, 3) := by decide +kernel
theorem dX9_readLoss_24 : decode cX9_readLoss 24 = .ok (.iconst 4, 1) := by decide +kernel
theorem dX9_readLoss_25 : decode cX9_readLoss 25 = .ok (.aload_n 0, 1) := by decide +kernel
theorem dX9_readLoss_26 : decode cX9_readLoss 26 = .ok (.getfield 77, 3) := by decide +kernel
theorem dX9_readLoss_29 : decode cX9_readLoss 29 = .ok (.iconst 4, 1) := by decide +kernel
theorem dX9_readLoss_30 : decode cX9_readLoss 30 = .ok (.iaload, 1) := by decide +kernel
theorem dX9_readLoss_31 : decode cX9_readLoss 31 = .ok (.imul, 1) := by decide +kernel
theorem dX9_readLoss_32 : decode cX9_readLoss 32 = .ok (.iadd, 1) := by decide +kernel
theorem dX9_readLoss_33 : decode cX9_readLoss 33 = .ok (.istore_n 1, 1) := by decide +kernel
theorem dX9_readLoss_34 : decode cX9_readLoss 34 = .ok (.aload_n 0, 1) := by decide +kernel
theorem dX9_readLoss_35 : decode cX9_readLoss 35 = .ok (.iload_n 1, 1) := by decide +kernel
theorem dX9_readLoss_36 : decode cX9_readLoss 36 = .ok (.iconst 0, 1) := by decide +kernel
theorem dX9_readLoss_37 : decode cX9_readLoss 37 = .ok (.iadd, 1) := by decide +kernel
theorem dX9_readLoss_38 : decode cX9_readLoss 38 = .ok (.iconst 0, 1) := by decide +kernel
theorem dX9_readLoss_39 : decode cX9_readLoss 39 = .ok (.aload_n 0, 1) := by decide +kernel
theorem dX9_readLoss_40 : decode cX9_readLoss 40 = .ok (.getfield 77, 3) := by decide +kernel
theorem dX9_readLoss_43 : decode cX9_readLoss 43 = .ok (.iconst 2, 1) := by decide +kernel
theorem dX9_readLoss_44 : decode cX9_readLoss 44 = .ok (.iaload, 1) := by decide +kernel
theorem dX9_readLoss_45 : decode cX9_readLoss 45 = .ok (.iconst 1, 1) := by decide +kernel
theorem dX9_readLoss_46 : decode cX9_readLoss 46 = .ok (.isub, 1) := by decide +kernel
theorem dX9_readLoss_47 : decode cX9_readLoss 47 = .ok (.invokevirtual 147, 3) := by decide +kernel
theorem dX9_readLoss_50 : decode cX9_readLoss 50 = .ok (.ifCond .eq 29, 3) := by decide +kernel
theorem dX9_readLoss_53 : decode cX9_readLoss 53 = .ok (.aload_n 0, 1) := by decide +kernel
theorem dX9_readLoss_54 : decode cX9_readLoss 54 = .ok (.iload_n 1, 1) := by decide +kernel
theorem dX9_readLoss_55 : decode cX9_readLoss 55 = .ok (.iconst 1, 1) := by decide +kernel
theorem dX9_readLoss_56 : decode cX9_readLoss 56 = .ok (.iadd, 1) := by decide +kernel
theorem dX9_readLoss_57 : decode cX9_readLoss 57 = .ok (.iconst 1, 1) := by decide +kernel
theorem dX9_readLoss_58 : decode cX9_readLoss 58 = .ok (.ldc 146, 2) := by decide +kernel
theorem dX9_readLoss_60 : decode cX9_readLoss 60 = .ok (.invokevirtual 147, 3) := by decide +kernel
theorem dX9_readLoss_63 : decode cX9_readLoss 63 = .ok (.ifCond .eq 16, 3) := by decide +kernel
theorem dX9_readLoss_66 : decode cX9_readLoss 66 = .ok (.aload_n 0, 1) := by decide +kernel
theorem dX9_readLoss_67 : decode cX9_readLoss 67 = .ok (.iload_n 1, 1) := by decide +kernel
theorem dX9_readLoss_68 : decode cX9_readLoss 68 = .ok (.iconst 2, 1) := by decide +kernel
theorem dX9_readLoss_69 : decode cX9_readLoss 69 = .ok (.iadd, 1) := by decide +kernel
theorem dX9_readLoss_70 : decode cX9_readLoss 70 = .ok (.iconst 1, 1) := by decide +kernel
theorem dX9_readLoss_71 : decode cX9_readLoss 71 = .ok (.bipush 39, 2) := by decide +kernel
theorem dX9_readLoss_73 : decode cX9_readLoss 73 = .ok (.invokevirtual 147, 3) := by decide +kernel
theorem dX9_readLoss_76 : decode cX9_readLoss 76 = .ok (.ifCond .ne 5, 3) := by decide +kernel
theorem dX9_readLoss_79 : decode cX9_readLoss 79 = .ok (.iconst 0, 1) := by decide +kernel
theorem dX9_readLoss_80 : decode cX9_readLoss 80 = .ok (.ireturn, 1) := by decide +kernel
theorem dX9_readLoss_81 : decode cX9_readLoss 81 = .ok (.aload_n 0, 1) := by decide +kernel
theorem dX9_readLoss_82 : decode cX9_readLoss 82 = .ok (.getfield 77, 3) := by decide +kernel
theorem dX9_readLoss_85 : decode cX9_readLoss 85 = .ok (.iload_n 1, 1) := by decide +kernel
theorem dX9_readLoss_86 : decode cX9_readLoss 86 = .ok (.iconst 3, 1) := by decide +kernel
theorem dX9_readLoss_87 : decode cX9_readLoss 87 = .ok (.iadd, 1) := by decide +kernel
theorem dX9_readLoss_88 : decode cX9_readLoss 88 = .ok (.aload_n 0, 1) := by decide +kernel
theorem dX9_readLoss_89 : decode cX9_readLoss 89 = .ok (.getfield 77, 3) := by decide +kernel
theorem dX9_readLoss_92 : decode cX9_readLoss 92 = .ok (.iload_n 1, 1) := by decide +kernel
theorem dX9_readLoss_93 : decode cX9_readLoss 93 = .ok (.iconst 1, 1) := by decide +kernel
theorem dX9_readLoss_94 : decode cX9_readLoss 94 = .ok (.iadd, 1) := by decide +kernel
theorem dX9_readLoss_95 : decode cX9_readLoss 95 = .ok (.iaload, 1) := by decide +kernel
theorem dX9_readLoss_96 : decode cX9_readLoss 96 = .ok (.iastore, 1) := by decide +kernel
theorem dX9_readLoss_97 : decode cX9_readLoss 97 = .ok (.aload_n 0, 1) := by decide +kernel
theorem dX9_readLoss_98 : decode cX9_readLoss 98 = .ok (.getfield 77, 3) := by decide +kernel
theorem dX9_readLoss_101 : decode cX9_readLoss 101 = .ok (.iconst 4, 1) := by decide +kernel
theorem dX9_readLoss_102 : decode cX9_readLoss 102 = .ok (.dup2, 1) := by decide +kernel
theorem dX9_readLoss_103 : decode cX9_readLoss 103 = .ok (.iaload, 1) := by decide +kernel
theorem dX9_readLoss_104 : decode cX9_readLoss 104 = .ok (.iconst 1, 1) := by decide +kernel
theorem dX9_readLoss_105 : decode cX9_readLoss 105 = .ok (.iadd, 1) := by decide +kernel
theorem dX9_readLoss_106 : decode cX9_readLoss 106 = .ok (.iastore, 1) := by decide +kernel
theorem dX9_readLoss_107 : decode cX9_readLoss 107 = .ok (.aload_n 0, 1) := by decide +kernel
theorem dX9_readLoss_108 : decode cX9_readLoss 108 = .ok (.invokevirtual 143, 3) := by decide +kernel
theorem dX9_readLoss_111 : decode cX9_readLoss 111 = .ok (.ireturn, 1) := by decide +kernel
theorem dX9_readLine_0 : decode cX9_readLine 0 = .ok (.aload_n 0, 1) := by decide +kernel
theorem dX9_readLine_1 : decode cX9_readLine 1 = .ok (.bipush 114, 2) := by decide +kernel
theorem dX9_readLine_3 : decode cX9_readLine 3 = .ok (.bipush 97, 2) := by decide +kernel
theorem dX9_readLine_5 : decode cX9_readLine 5 = .ok (.bipush 116, 2) := by decide +kernel
theorem dX9_readLine_7 : decode cX9_readLine 7 = .ok (.bipush 101, 2) := by decide +kernel
theorem dX9_readLine_9 : decode cX9_readLine 9 = .ok (.invokestatic 58, 3) := by decide +kernel
theorem dX9_readLine_12 : decode cX9_readLine 12 = .ok (.invokevirtual 127, 3) := by decide +kernel
theorem dX9_readLine_15 : decode cX9_readLine 15 = .ok (.ifCond .eq 9, 3) := by decide +kernel
theorem dX9_readLine_18 : decode cX9_readLine 18 = .ok (.aload_n 0, 1) := by decide +kernel
theorem dX9_readLine_19 : decode cX9_readLine 19 = .ok (.iconst 1, 1) := by decide +kernel
theorem dX9_readLine_20 : decode cX9_readLine 20 = .ok (.invokevirtual 150, 3) := by decide +kernel
theorem dX9_readLine_23 : decode cX9_readLine 23 = .ok (.ireturn, 1) := by decide +kernel
theorem dX9_readLine_24 : decode cX9_readLine 24 = .ok (.aload_n 0, 1) := by decide +kernel
theorem dX9_readLine_25 : decode cX9_readLine 25 = .ok (.bipush 112, 2) := by decide +kernel
theorem dX9_readLine_27 : decode cX9_readLine 27 = .ok (.bipush 114, 2) := by decide +kernel
theorem dX9_readLine_29 : decode cX9_readLine 29 = .ok (.bipush 111, 2) := by decide +kernel
theorem dX9_readLine_31 : decode cX9_readLine 31 = .ok (.bipush 102, 2) := by decide +kernel
theorem dX9_readLine_33 : decode cX9_readLine 33 = .ok (.bipush 105, 2) := by decide +kernel
theorem dX9_readLine_35 : decode cX9_readLine 35 = .ok (.bipush 116, 2) := by decide +kernel
theorem dX9_readLine_37 : decode cX9_readLine 37 = .ok (.invokestatic 123, 3) := by decide +kernel
theorem dX9_readLine_40 : decode cX9_readLine 40 = .ok (.invokevirtual 127, 3) := by decide +kernel
theorem dX9_readLine_43 : decode cX9_readLine 43 = .ok (.ifCond .eq 9, 3) := by decide +kernel
theorem dX9_readLine_46 : decode cX9_readLine 46 = .ok (.aload_n 0, 1) := by decide +kernel
theorem dX9_readLine_47 : decode cX9_readLine 47 = .ok (.iconst 0, 1) := by decide +kernel
theorem dX9_readLine_48 : decode cX9_readLine 48 = .ok (.invokevirtual 150, 3) := by decide +kernel
theorem dX9_readLine_51 : decode cX9_readLine 51 = .ok (.ireturn, 1) := by decide +kernel
theorem dX9_readLine_52 : decode cX9_readLine 52 = .ok (.aload_n 0, 1) := by decide +kernel
theorem dX9_readLine_53 : decode cX9_readLine 53 = .ok (.ldc2_w 48, 3) := by decide +kernel
theorem dX9_readLine_56 : decode cX9_readLine 56 = .ok (.bipush 116, 2) := by decide +kernel
theorem dX9_readLine_58 : decode cX9_readLine 58 = .ok (.bipush 97, 2) := by decide +kernel
theorem dX9_readLine_60 : decode cX9_readLine 60 = .ok (.bipush 120, 2) := by decide +kernel
theorem dX9_readLine_62 : decode cX9_readLine 62 = .ok (.bipush 97, 2) := by decide +kernel
theorem dX9_readLine_64 : decode cX9_readLine 64 = .ok (.bipush 98, 2) := by decide +kernel
theorem dX9_readLine_66 : decode cX9_readLine 66 = .ok (.bipush 108, 2) := by decide +kernel
theorem dX9_readLine_68 : decode cX9_readLine 68 = .ok (.invokestatic 123, 3) := by decide +kernel
theorem dX9_readLine_71 : decode cX9_readLine 71 = .ok (.lmul, 1) := by decide +kernel
theorem dX9_readLine_72 : decode cX9_readLine 72 = .ok (.ldc2_w 154, 3) := by decide +kernel
theorem dX9_readLine_75 : decode cX9_readLine 75 = .ok (.ladd, 1) := by decide +kernel
theorem dX9_readLine_76 : decode cX9_readLine 76 = .ok (.invokevirtual 127, 3) := by decide +kernel
theorem dX9_readLine_79 : decode cX9_readLine 79 = .ok (.ifCond .eq 9, 3) := by decide +kernel
theorem dX9_readLine_82 : decode cX9_readLine 82 = .ok (.aload_n 0, 1) := by decide +kernel
theorem dX9_readLine_83 : decode cX9_readLine 83 = .ok (.iconst 1, 1) := by decide +kernel
theorem dX9_readLine_84 : decode cX9_readLine 84 = .ok (.invokevirtual 156, 3) := by decide +kernel
theorem dX9_readLine_87 : decode cX9_readLine 87 = .ok (.ireturn, 1) := by decide +kernel
theorem dX9_readLine_88 : decode cX9_readLine 88 = .ok (.aload_n 0, 1) := by decide +kernel
theorem dX9_readLine_89 : decode cX9_readLine 89 = .ok (.ldc2_w 159, 3) := by decide +kernel
theorem dX9_readLine_92 : decode cX9_readLine 92 = .ok (.bipush 100, 2) := by decide +kernel
theorem dX9_readLine_94 : decode cX9_readLine 94 = .ok (.bipush 101, 2) := by decide +kernel
theorem dX9_readLine_96 : decode cX9_readLine 96 = .ok (.bipush 100, 2) := by decide +kernel
theorem dX9_readLine_98 : decode cX9_readLine 98 = .ok (.bipush 117, 2) := by decide +kernel
theorem dX9_readLine_100 : decode cX9_readLine 100 = .ok (.bipush 99, 2) := by decide +kernel
theorem dX9_readLine_102 : decode cX9_readLine 102 = .ok (.bipush 116, 2) := by decide +kernel
theorem dX9_readLine_104 : decode cX9_readLine 104 = .ok (.invokestatic 123, 3) := by decide +kernel
theorem dX9_readLine_107 : decode cX9_readLine 107 = .ok (.lmul, 1) := by decide +kernel
theorem dX9_readLine_108 : decode cX9_readLine 108 = .ok (.bipush 105, 2) := by decide +kernel
theorem dX9_readLine_110 : decode cX9_readLine 110 = .ok (.bipush 98, 2) := by decide +kernel
theorem dX9_readLine_112 : decode cX9_readLine 112 = .ok (.bipush 108, 2) := by decide +kernel
theorem dX9_readLine_114 : decode cX9_readLine 114 = .ok (.bipush 101, 2) := by decide +kernel
theorem dX9_readLine_116 : decode cX9_readLine 116 = .ok (.invokestatic 58, 3) := by decide +kernel
theorem dX9_readLine_119 : decode cX9_readLine 119 = .ok (.ladd, 1) := by decide +kernel
theorem dX9_readLine_120 : decode cX9_readLine 120 = .ok (.invokevirtual 127, 3) := by decide +kernel
theorem dX9_readLine_123 : decode cX9_readLine 123 = .ok (.ifCond .eq 9, 3) := by decide +kernel
theorem dX9_readLine_126 : decode cX9_readLine 126 = .ok (.aload_n 0, 1) := by decide +kernel
theorem dX9_readLine_127 : decode cX9_readLine 127 = .ok (.iconst 0, 1) := by decide +kernel
theorem dX9_readLine_128 : decode cX9_readLine 128 = .ok (.invokevirtual 156, 3) := by decide +kernel
theorem dX9_readLine_131 : decode cX9_readLine 131 = .ok (.ireturn, 1) := by decide +kernel
theorem dX9_readLine_132 : decode cX9_readLine 132 = .ok (.aload_n 0, 1) := by decide +kernel
theorem dX9_readLine_133 : decode cX9_readLine 133 = .ok (.bipush 108, 2) := by decide +kernel
theorem dX9_readLine_135 : decode cX9_readLine 135 = .ok (.bipush 111, 2) := by decide +kernel
theorem dX9_readLine_137 : decode cX9_readLine 137 = .ok (.bipush 115, 2) := by decide +kernel
theorem dX9_readLine_139 : decode cX9_readLine 139 = .ok (.bipush 115, 2) := by decide +kernel
theorem dX9_readLine_141 : decode cX9_readLine 141 = .ok (.invokestatic 58, 3) := by decide +kernel
theorem dX9_readLine_144 : decode cX9_readLine 144 = .ok (.invokevirtual 127, 3) := by decide +kernel
theorem dX9_readLine_147 : decode cX9_readLine 147 = .ok (.ifCond .eq 10, 3) := by decide +kernel
theorem dX9_readLine_150 : decode cX9_readLine 150 = .ok (.aload_n 0, 1) := by decide +kernel
theorem dX9_readLine_151 : decode cX9_readLine 151 = .ok (.invokevirtual 161, 3) := by decide +kernel
theorem dX9_readLine_154 : decode cX9_readLine 154 = .ok (.goto 8, 3) := by decide +kernel
theorem dX9_readLine_157 : decode cX9_readLine 157 = .ok (.aload_n 0, 1) := by decide +kernel
theorem dX9_readLine_158 : decode cX9_readLine 158 = .ok (.iconst 1, 1) := by decide +kernel
theorem dX9_readLine_159 : decode cX9_readLine 159 = .ok (.invokevirtual 110, 3) := by decide +kernel
theorem dX9_readLine_162 : decode cX9_readLine 162 = .ok (.ireturn, 1) := by decide +kernel
theorem dX9_text_0 : decode cX9_text 0 = .ok (.aload_n 0, 1) := by decide +kernel
theorem dX9_text_1 : decode cX9_text 1 = .ok (.iconst 0, 1) := by decide +kernel
theorem dX9_text_2 : decode cX9_text 2 = .ok (.putfield 1, 3) := by decide +kernel
theorem dX9_text_5 : decode cX9_text 5 = .ok (.aload_n 0, 1) := by decide +kernel
theorem dX9_text_6 : decode cX9_text 6 = .ok (.aload_n 0, 1) := by decide +kernel
theorem dX9_text_7 : decode cX9_text 7 = .ok (.getfield 11, 3) := by decide +kernel
theorem dX9_text_10 : decode cX9_text 10 = .ok (.putfield 18, 3) := by decide +kernel
theorem dX9_text_13 : decode cX9_text 13 = .ok (.aload_n 0, 1) := by decide +kernel
theorem dX9_text_14 : decode cX9_text 14 = .ok (.iconst 0, 1) := by decide +kernel
theorem dX9_text_15 : decode cX9_text 15 = .ok (.putfield 11, 3) := by decide +kernel
theorem dX9_text_18 : decode cX9_text 18 = .ok (.aload_n 0, 1) := by decide +kernel
theorem dX9_text_19 : decode cX9_text 19 = .ok (.iconst 0, 1) := by decide +kernel
theorem dX9_text_20 : decode cX9_text 20 = .ok (.putfield 62, 3) := by decide +kernel
theorem dX9_text_23 : decode cX9_text 23 = .ok (.aload_n 0, 1) := by decide +kernel
theorem dX9_text_24 : decode cX9_text 24 = .ok (.iconst 0, 1) := by decide +kernel
theorem dX9_text_25 : decode cX9_text 25 = .ok (.putfield 21, 3) := by decide +kernel
theorem dX9_text_28 : decode cX9_text 28 = .ok (.iconst 0, 1) := by decide +kernel
theorem dX9_text_29 : decode cX9_text 29 = .ok (.istore_n 1, 1) := by decide +kernel
theorem dX9_text_30 : decode cX9_text 30 = .ok (.iload_n 1, 1) := by decide +kernel
theorem dX9_text_31 : decode cX9_text 31 = .ok (.sipush 1395, 3) := by decide +kernel
theorem dX9_text_34 : decode cX9_text 34 = .ok (.if_icmp .ge 16, 3) := by decide +kernel
theorem dX9_text_37 : decode cX9_text 37 = .ok (.aload_n 0, 1) := by decide +kernel
theorem dX9_text_38 : decode cX9_text 38 = .ok (.getfield 77, 3) := by decide +kernel
theorem dX9_text_41 : decode cX9_text 41 = .ok (.iload_n 1, 1) := by decide +kernel
theorem dX9_text_42 : decode cX9_text 42 = .ok (.iconst 0, 1) := by decide +kernel
theorem dX9_text_43 : decode cX9_text 43 = .ok (.iastore, 1) := by decide +kernel
theorem dX9_text_44 : decode cX9_text 44 = .ok (.iinc 1 1, 3) := by decide +kernel
theorem dX9_text_47 : decode cX9_text 47 = .ok (.goto (-17), 3) := by decide +kernel
theorem dX9_text_50 : decode cX9_text 50 = .ok (.aload_n 0, 1) := by decide +kernel
theorem dX9_text_51 : decode cX9_text 51 = .ok (.invokevirtual 117, 3) := by decide +kernel
theorem dX9_text_54 : decode cX9_text 54 = .ok (.aload_n 0, 1) := by decide +kernel
theorem dX9_text_55 : decode cX9_text 55 = .ok (.invokevirtual 164, 3) := by decide +kernel
theorem dX9_text_58 : decode cX9_text 58 = .ok (.istore_n 1, 1) := by decide +kernel
theorem dX9_text_59 : decode cX9_text 59 = .ok (.iload_n 1, 1) := by decide +kernel
theorem dX9_text_60 : decode cX9_text 60 = .ok (.ifCond .le 28, 3) := by decide +kernel
theorem dX9_text_63 : decode cX9_text 63 = .ok (.aload_n 0, 1) := by decide +kernel
theorem dX9_text_64 : decode cX9_text 64 = .ok (.getfield 27, 3) := by decide +kernel
theorem dX9_text_67 : decode cX9_text 67 = .ok (.ifCond .eq 21, 3) := by decide +kernel
theorem dX9_text_70 : decode cX9_text 70 = .ok (.aload_n 0, 1) := by decide +kernel
theorem dX9_text_71 : decode cX9_text 71 = .ok (.invokevirtual 168, 3) := by decide +kernel
theorem dX9_text_74 : decode cX9_text 74 = .ok (.ifCond .eq 9, 3) := by decide +kernel
theorem dX9_text_77 : decode cX9_text 77 = .ok (.iload_n 1, 1) := by decide +kernel
theorem dX9_text_78 : decode cX9_text 78 = .ok (.iconst 1, 1) := by decide +kernel
theorem dX9_text_79 : decode cX9_text 79 = .ok (.iadd, 1) := by decide +kernel
theorem dX9_text_80 : decode cX9_text 80 = .ok (.goto 4, 3) := by decide +kernel
theorem dX9_text_83 : decode cX9_text 83 = .ok (.iconst 0, 1) := by decide +kernel
theorem dX9_text_84 : decode cX9_text 84 = .ok (.istore_n 1, 1) := by decide +kernel
theorem dX9_text_85 : decode cX9_text 85 = .ok (.goto (-26), 3) := by decide +kernel
theorem dX9_text_88 : decode cX9_text 88 = .ok (.iload_n 1, 1) := by decide +kernel
theorem dX9_text_89 : decode cX9_text 89 = .ok (.ifCond .ne 10, 3) := by decide +kernel
theorem dX9_text_92 : decode cX9_text 92 = .ok (.iconst (-1), 1) := by decide +kernel
theorem dX9_text_93 : decode cX9_text 93 = .ok (.aload_n 0, 1) := by decide +kernel
theorem dX9_text_94 : decode cX9_text 94 = .ok (.getfield 65, 3) := by decide +kernel
theorem dX9_text_97 : decode cX9_text 97 = .ok (.isub, 1) := by decide +kernel
theorem dX9_text_98 : decode cX9_text 98 = .ok (.ireturn, 1) := by decide +kernel
theorem dX9_text_99 : decode cX9_text 99 = .ok (.iconst 0, 1) := by decide +kernel
theorem dX9_text_100 : decode cX9_text 100 = .ok (.istore_n 2, 1) := by decide +kernel
theorem dX9_text_101 : decode cX9_text 101 = .ok (.iload_n 2, 1) := by decide +kernel
theorem dX9_text_102 : decode cX9_text 102 = .ok (.sipush 1395, 3) := by decide +kernel
theorem dX9_text_105 : decode cX9_text 105 = .ok (.if_icmp .ge 21, 3) := by decide +kernel
theorem dX9_text_108 : decode cX9_text 108 = .ok (.aload_n 0, 1) := by decide +kernel
theorem dX9_text_109 : decode cX9_text 109 = .ok (.getfield 74, 3) := by decide +kernel
theorem dX9_text_112 : decode cX9_text 112 = .ok (.iload_n 2, 1) := by decide +kernel
theorem dX9_text_113 : decode cX9_text 113 = .ok (.aload_n 0, 1) := by decide +kernel
theorem dX9_text_114 : decode cX9_text 114 = .ok (.getfield 77, 3) := by decide +kernel
theorem dX9_text_117 : decode cX9_text 117 = .ok (.iload_n 2, 1) := by decide +kernel
theorem dX9_text_118 : decode cX9_text 118 = .ok (.iaload, 1) := by decide +kernel
theorem dX9_text_119 : decode cX9_text 119 = .ok (.iastore, 1) := by decide +kernel
theorem dX9_text_120 : decode cX9_text 120 = .ok (.iinc 2 1, 3) := by decide +kernel
theorem dX9_text_123 : decode cX9_text 123 = .ok (.goto (-22), 3) := by decide +kernel
theorem dX9_text_126 : decode cX9_text 126 = .ok (.aload_n 0, 1) := by decide +kernel
theorem dX9_text_127 : decode cX9_text 127 = .ok (.iconst 0, 1) := by decide +kernel
theorem dX9_text_128 : decode cX9_text 128 = .ok (.putfield 171, 3) := by decide +kernel
theorem dX9_text_131 : decode cX9_text 131 = .ok (.iload_n 1, 1) := by decide +kernel
theorem dX9_text_132 : decode cX9_text 132 = .ok (.ireturn, 1) := by decide +kernel
theorem dX9_readHead_0 : decode cX9_readHead 0 = .ok (.aload_n 0, 1) := by decide +kernel
theorem dX9_readHead_1 : decode cX9_readHead 1 = .ok (.ldc2_w 48, 3) := by decide +kernel
theorem dX9_readHead_4 : decode cX9_readHead 4 = .ok (.bipush 99, 2) := by decide +kernel
theorem dX9_readHead_6 : decode cX9_readHead 6 = .ok (.bipush 97, 2) := by decide +kernel
theorem dX9_readHead_8 : decode cX9_readHead 8 = .ok (.bipush 114, 2) := by decide +kernel
theorem dX9_readHead_10 : decode cX9_readHead 10 = .ok (.bipush 114, 2) := by decide +kernel
theorem dX9_readHead_12 : decode cX9_readHead 12 = .ok (.invokestatic 58, 3) := by decide +kernel
theorem dX9_readHead_15 : decode cX9_readHead 15 = .ok (.lmul, 1) := by decide +kernel
theorem dX9_readHead_16 : decode cX9_readHead 16 = .ok (.ldc2_w 174, 3) := by decide +kernel
theorem dX9_readHead_19 : decode cX9_readHead 19 = .ok (.ladd, 1) := by decide +kernel
theorem dX9_readHead_20 : decode cX9_readHead 20 = .ok (.invokevirtual 127, 3) := by decide +kernel
theorem dX9_readHead_23 : decode cX9_readHead 23 = .ok (.ifCond .ne 11, 3) := by decide +kernel
theorem dX9_readHead_26 : decode cX9_readHead 26 = .ok (.aload_n 0, 1) := by decide +kernel
theorem dX9_readHead_27 : decode cX9_readHead 27 = .ok (.iconst 1, 1) := by decide +kernel
theorem dX9_readHead_28 : decode cX9_readHead 28 = .ok (.invokevirtual 110, 3) := by decide +kernel
theorem dX9_readHead_31 : decode cX9_readHead 31 = .ok (.pop, 1) := by decide +kernel
theorem dX9_readHead_32 : decode cX9_readHead 32 = .ok (.iconst 0, 1) := by decide +kernel
theorem dX9_readHead_33 : decode cX9_readHead 33 = .ok (.ireturn, 1) := by decide +kernel
theorem dX9_readHead_34 : decode cX9_readHead 34 = .ok (.aload_n 0, 1) := by decide +kernel
theorem dX9_readHead_35 : decode cX9_readHead 35 = .ok (.invokevirtual 117, 3) := by decide +kernel
theorem dX9_readHead_38 : decode cX9_readHead 38 = .ok (.aload_n 0, 1) := by decide +kernel
theorem dX9_readHead_39 : decode cX9_readHead 39 = .ok (.iconst 1, 1) := by decide +kernel
theorem dX9_readHead_40 : decode cX9_readHead 40 = .ok (.iconst 0, 1) := by decide +kernel
theorem dX9_readHead_41 : decode cX9_readHead 41 = .ok (.bipush 20, 2) := by decide +kernel
theorem dX9_readHead_43 : decode cX9_readHead 43 = .ok (.invokevirtual 147, 3) := by decide +kernel
theorem dX9_readHead_46 : decode cX9_readHead 46 = .ok (.ifCond .eq 17, 3) := by decide +kernel
theorem dX9_readHead_49 : decode cX9_readHead 49 = .ok (.aload_n 0, 1) := by decide +kernel
theorem dX9_readHead_50 : decode cX9_readHead 50 = .ok (.invokevirtual 143, 3) := by decide +kernel
theorem dX9_readHead_53 : decode cX9_readHead 53 = .ok (.ifCond .eq 10, 3) := by decide +kernel
theorem dX9_readHead_56 : decode cX9_readHead 56 = .ok (.aload_n 0, 1) := by decide +kernel
theorem dX9_readHead_57 : decode cX9_readHead 57 = .ok (.invokevirtual 176, 3) := by decide +kernel
theorem dX9_readHead_60 : decode cX9_readHead 60 = .ok (.ifCond .ne 5, 3) := by decide +kernel
theorem dX9_readHead_63 : decode cX9_readHead 63 = .ok (.iconst 0, 1) := by decide +kernel
theorem dX9_readHead_64 : decode cX9_readHead 64 = .ok (.ireturn, 1) := by decide +kernel
theorem dX9_readHead_65 : decode cX9_readHead 65 = .ok (.aload_n 0, 1) := by decide +kernel
theorem dX9_readHead_66 : decode cX9_readHead 66 = .ok (.invokevirtual 131, 3) := by decide +kernel
theorem dX9_readHead_69 : decode cX9_readHead 69 = .ok (.ifCond .eq 12, 3) := by decide +kernel
theorem dX9_readHead_72 : decode cX9_readHead 72 = .ok (.aload_n 0, 1) := by decide +kernel
theorem dX9_readHead_73 : decode cX9_readHead 73 = .ok (.invokevirtual 176, 3) := by decide +kernel
theorem dX9_readHead_76 : decode cX9_readHead 76 = .ok (.ifCond .ne (-11), 3) := by decide +kernel
theorem dX9_readHead_79 : decode cX9_readHead 79 = .ok (.iconst 0, 1) := by decide +kernel
theorem dX9_readHead_80 : decode cX9_readHead 80 = .ok (.ireturn, 1) := by decide +kernel
theorem dX9_readHead_81 : decode cX9_readHead 81 = .ok (.iconst 1, 1) := by decide +kernel
theorem dX9_readHead_82 : decode cX9_readHead 82 = .ok (.aload_n 0, 1) := by decide +kernel
theorem dX9_readHead_83 : decode cX9_readHead 83 = .ok (.getfield 77, 3) := by decide +kernel
theorem dX9_readHead_86 : decode cX9_readHead 86 = .ok (.iconst 2, 1) := by decide +kernel
theorem dX9_readHead_87 : decode cX9_readHead 87 = .ok (.iaload, 1) := by decide +kernel
theorem dX9_readHead_88 : decode cX9_readHead 88 = .ok (.iadd, 1) := by decide +kernel
theorem dX9_readHead_89 : decode cX9_readHead 89 = .ok (.ireturn, 1) := by decide +kernel
theorem dX9_fault_0 : decode cX9_fault 0 = .ok (.aload_n 0, 1) := by decide +kernel
theorem dX9_fault_1 : decode cX9_fault 1 = .ok (.iconst 0, 1) := by decide +kernel
theorem dX9_fault_2 : decode cX9_fault 2 = .ok (.putfield 1, 3) := by decide +kernel
theorem dX9_fault_5 : decode cX9_fault 5 = .ok (.aload_n 0, 1) := by decide +kernel
theorem dX9_fault_6 : decode cX9_fault 6 = .ok (.getfield 62, 3) := by decide +kernel
theorem dX9_fault_9 : decode cX9_fault 9 = .ok (.ireturn, 1) := by decide +kernel
theorem dX9_isOffice_0 : decode cX9_isOffice 0 = .ok (.iload_n 1, 1) := by decide +kernel
theorem dX9_isOffice_1 : decode cX9_isOffice 1 = .ok (.iconst 0, 1) := by decide +kernel
theorem dX9_isOffice_2 : decode cX9_isOffice 2 = .ok (.aload_n 0, 1) := by decide +kernel
theorem dX9_isOffice_3 : decode cX9_isOffice 3 = .ok (.getfield 74, 3) := by decide +kernel
theorem dX9_isOffice_6 : decode cX9_isOffice 6 = .ok (.iconst 2, 1) := by decide +kernel
theorem dX9_isOffice_7 : decode cX9_isOffice 7 = .ok (.iaload, 1) := by decide +kernel
theorem dX9_isOffice_8 : decode cX9_isOffice 8 = .ok (.iconst 1, 1) := by decide +kernel
theorem dX9_isOffice_9 : decode cX9_isOffice 9 = .ok (.isub, 1) := by decide +kernel
theorem dX9_isOffice_10 : decode cX9_isOffice 10 = .ok (.invokestatic 113, 3) := by decide +kernel
theorem dX9_isOffice_13 : decode cX9_isOffice 13 = .ok (.ireturn, 1) := by decide +kernel
theorem dX9_isYear_0 : decode cX9_isYear 0 = .ok (.iload_n 0, 1) := by decide +kernel
theorem dX9_isYear_1 : decode cX9_isYear 1 = .ok (.iconst 0, 1) := by decide +kernel
theorem dX9_isYear_2 : decode cX9_isYear 2 = .ok (.bipush 39, 2) := by decide +kernel
theorem dX9_isYear_4 : decode cX9_isYear 4 = .ok (.invokestatic 113, 3) := by decide +kernel
theorem dX9_isYear_7 : decode cX9_isYear 7 = .ok (.ireturn, 1) := by decide +kernel
theorem dX9_isAhead_0 : decode cX9_isAhead 0 = .ok (.iload_n 1, 1) := by decide +kernel
theorem dX9_isAhead_1 : decode cX9_isAhead 1 = .ok (.aload_n 0, 1) := by decide +kernel
theorem dX9_isAhead_2 : decode cX9_isAhead 2 = .ok (.getfield 74, 3) := by decide +kernel
theorem dX9_isAhead_5 : decode cX9_isAhead 5 = .ok (.iconst 0, 1) := by decide +kernel
theorem dX9_isAhead_6 : decode cX9_isAhead 6 = .ok (.iaload, 1) := by decide +kernel
theorem dX9_isAhead_7 : decode cX9_isAhead 7 = .ok (.iconst 1, 1) := by decide +kernel
theorem dX9_isAhead_8 : decode cX9_isAhead 8 = .ok (.iadd, 1) := by decide +kernel
theorem dX9_isAhead_9 : decode cX9_isAhead 9 = .ok (.bipush 39, 2) := by decide +kernel
theorem dX9_isAhead_11 : decode cX9_isAhead 11 = .ok (.invokestatic 113, 3) := by decide +kernel
theorem dX9_isAhead_14 : decode cX9_isAhead 14 = .ok (.ireturn, 1) := by decide +kernel
theorem dX9_isItem_0 : decode cX9_isItem 0 = .ok (.iload_n 1, 1) := by decide +kernel
theorem dX9_isItem_1 : decode cX9_isItem 1 = .ok (.iconst 0, 1) := by decide +kernel
theorem dX9_isItem_2 : decode cX9_isItem 2 = .ok (.aload_n 0, 1) := by decide +kernel
theorem dX9_isItem_3 : decode cX9_isItem 3 = .ok (.getfield 74, 3) := by decide +kernel
theorem dX9_isItem_6 : decode cX9_isItem 6 = .ok (.iconst 3, 1) := by decide +kernel
theorem dX9_isItem_7 : decode cX9_isItem 7 = .ok (.iaload, 1) := by decide +kernel
theorem dX9_isItem_8 : decode cX9_isItem 8 = .ok (.iconst 1, 1) := by decide +kernel
theorem dX9_isItem_9 : decode cX9_isItem 9 = .ok (.isub, 1) := by decide +kernel
theorem dX9_isItem_10 : decode cX9_isItem 10 = .ok (.invokestatic 113, 3) := by decide +kernel
theorem dX9_isItem_13 : decode cX9_isItem 13 = .ok (.ireturn, 1) := by decide +kernel
theorem dX9_isLoss_0 : decode cX9_isLoss 0 = .ok (.iload_n 1, 1) := by decide +kernel
theorem dX9_isLoss_1 : decode cX9_isLoss 1 = .ok (.iconst 0, 1) := by decide +kernel
theorem dX9_isLoss_2 : decode cX9_isLoss 2 = .ok (.aload_n 0, 1) := by decide +kernel
theorem dX9_isLoss_3 : decode cX9_isLoss 3 = .ok (.getfield 74, 3) := by decide +kernel
theorem dX9_isLoss_6 : decode cX9_isLoss 6 = .ok (.iconst 4, 1) := by decide +kernel
theorem dX9_isLoss_7 : decode cX9_isLoss 7 = .ok (.iaload, 1) := by decide +kernel
theorem dX9_isLoss_8 : decode cX9_isLoss 8 = .ok (.iconst 1, 1) := by decide +kernel
theorem dX9_isLoss_9 : decode cX9_isLoss 9 = .ok (.isub, 1) := by decide +kernel
theorem dX9_isLoss_10 : decode cX9_isLoss 10 = .ok (.invokestatic 113, 3) := by decide +kernel
theorem dX9_isLoss_13 : decode cX9_isLoss 13 = .ok (.ireturn, 1) := by decide +kernel
theorem dX9_its_0 : decode cX9_its 0 = .ok (.aload_n 0, 1) := by decide +kernel
theorem dX9_its_1 : decode cX9_its 1 = .ok (.getfield 74, 3) := by decide +kernel
theorem dX9_its_4 : decode cX9_its 4 = .ok (.sipush 245, 3) := by decide +kernel
theorem dX9_its_7 : decode cX9_its 7 = .ok (.iconst 5, 1) := by decide +kernel
theorem dX9_its_8 : decode cX9_its 8 = .ok (.iload_n 1, 1) := by decide +kernel
theorem dX9_its_9 : decode cX9_its 9 = .ok (.imul, 1) := by decide +kernel
theorem dX9_its_10 : decode cX9_its 10 = .ok (.iadd, 1) := by decide +kernel
theorem dX9_its_11 : decode cX9_its 11 = .ok (.iload_n 2, 1) := by decide +kernel
theorem dX9_its_12 : decode cX9_its 12 = .ok (.iadd, 1) := by decide +kernel
theorem dX9_its_13 : decode cX9_its 13 = .ok (.iaload, 1) := by decide +kernel
theorem dX9_its_14 : decode cX9_its 14 = .ok (.ireturn, 1) := by decide +kernel
theorem dX9_lost_0 : decode cX9_lost 0 = .ok (.aload_n 0, 1) := by decide +kernel
theorem dX9_lost_1 : decode cX9_lost 1 = .ok (.getfield 74, 3) := by decide +kernel
theorem dX9_lost_4 : decode cX9_lost 4 = .ok (.sipush 395, 3) := by decide +kernel
theorem dX9_lost_7 : decode cX9_lost 7 = .ok (.iconst 4, 1) := by decide +kernel
theorem dX9_lost_8 : decode cX9_lost 8 = .ok (.iload_n 1, 1) := by decide +kernel
theorem dX9_lost_9 : decode cX9_lost 9 = .ok (.imul, 1) := by decide +kernel
theorem dX9_lost_10 : decode cX9_lost 10 = .ok (.iadd, 1) := by decide +kernel
theorem dX9_lost_11 : decode cX9_lost 11 = .ok (.iload_n 2, 1) := by decide +kernel
theorem dX9_lost_12 : decode cX9_lost 12 = .ok (.iadd, 1) := by decide +kernel
theorem dX9_lost_13 : decode cX9_lost 13 = .ok (.iaload, 1) := by decide +kernel
theorem dX9_lost_14 : decode cX9_lost 14 = .ok (.ireturn, 1) := by decide +kernel
theorem dX9_upTo_0 : decode cX9_upTo 0 = .ok (.aload_n 0, 1) := by decide +kernel
theorem dX9_upTo_1 : decode cX9_upTo 1 = .ok (.iload_n 1, 1) := by decide +kernel
theorem dX9_upTo_2 : decode cX9_upTo 2 = .ok (.iconst 4, 1) := by decide +kernel
theorem dX9_upTo_3 : decode cX9_upTo 3 = .ok (.invokevirtual 179, 3) := by decide +kernel
theorem dX9_upTo_6 : decode cX9_upTo 6 = .ok (.aload_n 0, 1) := by decide +kernel
theorem dX9_upTo_7 : decode cX9_upTo 7 = .ok (.iload_n 1, 1) := by decide +kernel
theorem dX9_upTo_8 : decode cX9_upTo 8 = .ok (.iconst 3, 1) := by decide +kernel
theorem dX9_upTo_9 : decode cX9_upTo 9 = .ok (.invokevirtual 179, 3) := by decide +kernel
theorem dX9_upTo_12 : decode cX9_upTo 12 = .ok (.isub, 1) := by decide +kernel
theorem dX9_upTo_13 : decode cX9_upTo 13 = .ok (.iconst 1, 1) := by decide +kernel
