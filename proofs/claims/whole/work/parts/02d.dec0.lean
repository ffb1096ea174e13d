theorem dX1_init_0 : decode cX1_init 0 = .ok (.aload_n 0, 1) := by decide +kernel
theorem dX1_init_1 : decode cX1_init 1 = .ok (.invokespecial 1, 3) := by decide +kernel
theorem dX1_init_4 : decode cX1_init 4 = .ok (.aload_n 0, 1) := by decide +kernel
theorem dX1_init_5 : decode cX1_init 5 = .ok (.bipush 10, 2) := by decide +kernel
theorem dX1_init_7 : decode cX1_init 7 = .ok (.anewarray 9, 3) := by decide +kernel
theorem dX1_init_10 : decode cX1_init 10 = .ok (.putfield 11, 3) := by decide +kernel
theorem dX1_init_13 : decode cX1_init 13 = .ok (.return_, 1) := by decide +kernel
theorem dX1_keep_0 : decode cX1_keep 0 = .ok (.aload_n 0, 1) := by decide +kernel
theorem dX1_keep_1 : decode cX1_keep 1 = .ok (.getfield 11, 3) := by decide +kernel
theorem dX1_keep_4 : decode cX1_keep 4 = .ok (.aload_n 0, 1) := by decide +kernel
theorem dX1_keep_5 : decode cX1_keep 5 = .ok (.getfield 15, 3) := by decide +kernel
theorem dX1_keep_8 : decode cX1_keep 8 = .ok (.aaload, 1) := by decide +kernel
theorem dX1_keep_9 : decode cX1_keep 9 = .ok (.ifnonnull 19, 3) := by decide +kernel
theorem dX1_keep_12 : decode cX1_keep 12 = .ok (.aload_n 0, 1) := by decide +kernel
theorem dX1_keep_13 : decode cX1_keep 13 = .ok (.getfield 11, 3) := by decide +kernel
theorem dX1_keep_16 : decode cX1_keep 16 = .ok (.aload_n 0, 1) := by decide +kernel
theorem dX1_keep_17 : decode cX1_keep 17 = .ok (.getfield 15, 3) := by decide +kernel
theorem dX1_keep_20 : decode cX1_keep 20 = .ok (.new 9, 3) := by decide +kernel
theorem dX1_keep_23 : decode cX1_keep 23 = .ok (.dup, 1) := by decide +kernel
theorem dX1_keep_24 : decode cX1_keep 24 = .ok (.invokespecial 19, 3) := by decide +kernel
theorem dX1_keep_27 : decode cX1_keep 27 = .ok (.aastore, 1) := by decide +kernel
theorem dX1_keep_28 : decode cX1_keep 28 = .ok (.aload_n 0, 1) := by decide +kernel
theorem dX1_keep_29 : decode cX1_keep 29 = .ok (.getfield 11, 3) := by decide +kernel
theorem dX1_keep_32 : decode cX1_keep 32 = .ok (.aload_n 0, 1) := by decide +kernel
theorem dX1_keep_33 : decode cX1_keep 33 = .ok (.getfield 15, 3) := by decide +kernel
theorem dX1_keep_36 : decode cX1_keep 36 = .ok (.aaload, 1) := by decide +kernel
theorem dX1_keep_37 : decode cX1_keep 37 = .ok (.aload_n 1, 1) := by decide +kernel
theorem dX1_keep_38 : decode cX1_keep 38 = .ok (.invokevirtual 20, 3) := by decide +kernel
theorem dX1_keep_41 : decode cX1_keep 41 = .ok (.aload_n 0, 1) := by decide +kernel
theorem dX1_keep_42 : decode cX1_keep 42 = .ok (.aload_n 0, 1) := by decide +kernel
theorem dX1_keep_43 : decode cX1_keep 43 = .ok (.getfield 15, 3) := by decide +kernel
theorem dX1_keep_46 : decode cX1_keep 46 = .ok (.iconst 1, 1) := by decide +kernel
theorem dX1_keep_47 : decode cX1_keep 47 = .ok (.iadd, 1) := by decide +kernel
theorem dX1_keep_48 : decode cX1_keep 48 = .ok (.bipush 10, 2) := by decide +kernel
theorem dX1_keep_50 : decode cX1_keep 50 = .ok (.irem, 1) := by decide +kernel
theorem dX1_keep_51 : decode cX1_keep 51 = .ok (.putfield 15, 3) := by decide +kernel
theorem dX1_keep_54 : decode cX1_keep 54 = .ok (.aload_n 0, 1) := by decide +kernel
theorem dX1_keep_55 : decode cX1_keep 55 = .ok (.aload_n 0, 1) := by decide +kernel
theorem dX1_keep_56 : decode cX1_keep 56 = .ok (.getfield 24, 3) := by decide +kernel
theorem dX1_keep_59 : decode cX1_keep 59 = .ok (.iconst 1, 1) := by decide +kernel
theorem dX1_keep_60 : decode cX1_keep 60 = .ok (.iadd, 1) := by decide +kernel
theorem dX1_keep_61 : decode cX1_keep 61 = .ok (.bipush 10, 2) := by decide +kernel
theorem dX1_keep_63 : decode cX1_keep 63 = .ok (.invokestatic 27, 3) := by decide +kernel
theorem dX1_keep_66 : decode cX1_keep 66 = .ok (.putfield 24, 3) := by decide +kernel
theorem dX1_keep_69 : decode cX1_keep 69 = .ok (.return_, 1) := by decide +kernel
theorem dX1_takeBack_0 : decode cX1_takeBack 0 = .ok (.aload_n 0, 1) := by decide +kernel
theorem dX1_takeBack_1 : decode cX1_takeBack 1 = .ok (.aload_n 0, 1) := by decide +kernel
theorem dX1_takeBack_2 : decode cX1_takeBack 2 = .ok (.getfield 15, 3) := by decide +kernel
theorem dX1_takeBack_5 : decode cX1_takeBack 5 = .ok (.bipush 10, 2) := by decide +kernel
theorem dX1_takeBack_7 : decode cX1_takeBack 7 = .ok (.iadd, 1) := by decide +kernel
theorem dX1_takeBack_8 : decode cX1_takeBack 8 = .ok (.iconst 1, 1) := by decide +kernel
theorem dX1_takeBack_9 : decode cX1_takeBack 9 = .ok (.isub, 1) := by decide +kernel
theorem dX1_takeBack_10 : decode cX1_takeBack 10 = .ok (.bipush 10, 2) := by decide +kernel
theorem dX1_takeBack_12 : decode cX1_takeBack 12 = .ok (.irem, 1) := by decide +kernel
theorem dX1_takeBack_13 : decode cX1_takeBack 13 = .ok (.putfield 15, 3) := by decide +kernel
theorem dX1_takeBack_16 : decode cX1_takeBack 16 = .ok (.aload_n 0, 1) := by decide +kernel
theorem dX1_takeBack_17 : decode cX1_takeBack 17 = .ok (.dup, 1) := by decide +kernel
theorem dX1_takeBack_18 : decode cX1_takeBack 18 = .ok (.getfield 24, 3) := by decide +kernel
theorem dX1_takeBack_21 : decode cX1_takeBack 21 = .ok (.iconst 1, 1) := by decide +kernel
theorem dX1_takeBack_22 : decode cX1_takeBack 22 = .ok (.isub, 1) := by decide +kernel
theorem dX1_takeBack_23 : decode cX1_takeBack 23 = .ok (.putfield 24, 3) := by decide +kernel
theorem dX1_takeBack_26 : decode cX1_takeBack 26 = .ok (.aload_n 0, 1) := by decide +kernel
theorem dX1_takeBack_27 : decode cX1_takeBack 27 = .ok (.getfield 11, 3) := by decide +kernel
theorem dX1_takeBack_30 : decode cX1_takeBack 30 = .ok (.aload_n 0, 1) := by decide +kernel
theorem dX1_takeBack_31 : decode cX1_takeBack 31 = .ok (.getfield 15, 3) := by decide +kernel
theorem dX1_takeBack_34 : decode cX1_takeBack 34 = .ok (.aaload, 1) := by decide +kernel
theorem dX1_takeBack_35 : decode cX1_takeBack 35 = .ok (.ifnull 16, 3) := by decide +kernel
theorem dX1_takeBack_38 : decode cX1_takeBack 38 = .ok (.aload_n 1, 1) := by decide +kernel
theorem dX1_takeBack_39 : decode cX1_takeBack 39 = .ok (.aload_n 0, 1) := by decide +kernel
theorem dX1_takeBack_40 : decode cX1_takeBack 40 = .ok (.getfield 11, 3) := by decide +kernel
theorem dX1_takeBack_43 : decode cX1_takeBack 43 = .ok (.aload_n 0, 1) := by decide +kernel
theorem dX1_takeBack_44 : decode cX1_takeBack 44 = .ok (.getfield 15, 3) := by decide +kernel
theorem dX1_takeBack_47 : decode cX1_takeBack 47 = .ok (.aaload, 1) := by decide +kernel
theorem dX1_takeBack_48 : decode cX1_takeBack 48 = .ok (.invokevirtual 20, 3) := by decide +kernel
theorem dX1_takeBack_51 : decode cX1_takeBack 51 = .ok (.return_, 1) := by decide +kernel
theorem dX1_forget_0 : decode cX1_forget 0 = .ok (.aload_n 0, 1) := by decide +kernel
theorem dX1_forget_1 : decode cX1_forget 1 = .ok (.iconst 0, 1) := by decide +kernel
theorem dX1_forget_2 : decode cX1_forget 2 = .ok (.putfield 24, 3) := by decide +kernel
theorem dX1_forget_5 : decode cX1_forget 5 = .ok (.return_, 1) := by decide +kernel
theorem dX2_init_0 : decode cX2_init 0 = .ok (.aload_n 0, 1) := by decide +kernel
theorem dX2_init_1 : decode cX2_init 1 = .ok (.invokespecial 3, 3) := by decide +kernel
theorem dX2_init_4 : decode cX2_init 4 = .ok (.aload_n 0, 1) := by decide +kernel
theorem dX2_init_5 : decode cX2_init 5 = .ok (.bipush 120, 2) := by decide +kernel
theorem dX2_init_7 : decode cX2_init 7 = .ok (.newarray .int, 2) := by decide +kernel
theorem dX2_init_9 : decode cX2_init 9 = .ok (.putfield 9, 3) := by decide +kernel
theorem dX2_init_12 : decode cX2_init 12 = .ok (.aload_n 0, 1) := by decide +kernel
theorem dX2_init_13 : decode cX2_init 13 = .ok (.bipush 120, 2) := by decide +kernel
theorem dX2_init_15 : decode cX2_init 15 = .ok (.newarray .int, 2) := by decide +kernel
theorem dX2_init_17 : decode cX2_init 17 = .ok (.putfield 15, 3) := by decide +kernel
theorem dX2_init_20 : decode cX2_init 20 = .ok (.aload_n 0, 1) := by decide +kernel
theorem dX2_init_21 : decode cX2_init 21 = .ok (.sipush 150, 3) := by decide +kernel
theorem dX2_init_24 : decode cX2_init 24 = .ok (.newarray .int, 2) := by decide +kernel
theorem dX2_init_26 : decode cX2_init 26 = .ok (.putfield 18, 3) := by decide +kernel
theorem dX2_init_29 : decode cX2_init 29 = .ok (.aload_n 0, 1) := by decide +kernel
theorem dX2_init_30 : decode cX2_init 30 = .ok (.bipush 40, 2) := by decide +kernel
theorem dX2_init_32 : decode cX2_init 32 = .ok (.newarray .int, 2) := by decide +kernel
theorem dX2_init_34 : decode cX2_init 34 = .ok (.putfield 21, 3) := by decide +kernel
theorem dX2_init_37 : decode cX2_init 37 = .ok (.aload_n 0, 1) := by decide +kernel
theorem dX2_init_38 : decode cX2_init 38 = .ok (.iconst 1, 1) := by decide +kernel
theorem dX2_init_39 : decode cX2_init 39 = .ok (.putfield 24, 3) := by decide +kernel
theorem dX2_init_42 : decode cX2_init 42 = .ok (.return_, 1) := by decide +kernel
theorem dX2_clear_0 : decode cX2_clear 0 = .ok (.iconst 0, 1) := by decide +kernel
theorem dX2_clear_1 : decode cX2_clear 1 = .ok (.istore_n 1, 1) := by decide +kernel
theorem dX2_clear_2 : decode cX2_clear 2 = .ok (.iload_n 1, 1) := by decide +kernel
theorem dX2_clear_3 : decode cX2_clear 3 = .ok (.aload_n 0, 1) := by decide +kernel
theorem dX2_clear_4 : decode cX2_clear 4 = .ok (.getfield 15, 3) := by decide +kernel
theorem dX2_clear_7 : decode cX2_clear 7 = .ok (.arraylength, 1) := by decide +kernel
theorem dX2_clear_8 : decode cX2_clear 8 = .ok (.if_icmp .ge 16, 3) := by decide +kernel
theorem dX2_clear_11 : decode cX2_clear 11 = .ok (.aload_n 0, 1) := by decide +kernel
theorem dX2_clear_12 : decode cX2_clear 12 = .ok (.getfield 15, 3) := by decide +kernel
theorem dX2_clear_15 : decode cX2_clear 15 = .ok (.iload_n 1, 1) := by decide +kernel
theorem dX2_clear_16 : decode cX2_clear 16 = .ok (.iconst 0, 1) := by decide +kernel
theorem dX2_clear_17 : decode cX2_clear 17 = .ok (.iastore, 1) := by decide +kernel
theorem dX2_clear_18 : decode cX2_clear 18 = .ok (.iinc 1 1, 3) := by decide +kernel
theorem dX2_clear_21 : decode cX2_clear 21 = .ok (.goto (-19), 3) := by decide +kernel
theorem dX2_clear_24 : decode cX2_clear 24 = .ok (.aload_n 0, 1) := by decide +kernel
theorem dX2_clear_25 : decode cX2_clear 25 = .ok (.iconst 0, 1) := by decide +kernel
theorem dX2_clear_26 : decode cX2_clear 26 = .ok (.putfield 28, 3) := by decide +kernel
theorem dX2_clear_29 : decode cX2_clear 29 = .ok (.aload_n 0, 1) := by decide +kernel
theorem dX2_clear_30 : decode cX2_clear 30 = .ok (.iconst 0, 1) := by decide +kernel
theorem dX2_clear_31 : decode cX2_clear 31 = .ok (.putfield 31, 3) := by decide +kernel
theorem dX2_clear_34 : decode cX2_clear 34 = .ok (.aload_n 0, 1) := by decide +kernel
theorem dX2_clear_35 : decode cX2_clear 35 = .ok (.iconst 0, 1) := by decide +kernel
theorem dX2_clear_36 : decode cX2_clear 36 = .ok (.putfield 24, 3) := by decide +kernel
theorem dX2_clear_39 : decode cX2_clear 39 = .ok (.aload_n 0, 1) := by decide +kernel
theorem dX2_clear_40 : decode cX2_clear 40 = .ok (.iconst 0, 1) := by decide +kernel
theorem dX2_clear_41 : decode cX2_clear 41 = .ok (.putfield 34, 3) := by decide +kernel
theorem dX2_clear_44 : decode cX2_clear 44 = .ok (.aload_n 0, 1) := by decide +kernel
theorem dX2_clear_45 : decode cX2_clear 45 = .ok (.iconst 0, 1) := by decide +kernel
theorem dX2_clear_46 : decode cX2_clear 46 = .ok (.putfield 37, 3) := by decide +kernel
theorem dX2_clear_49 : decode cX2_clear 49 = .ok (.return_, 1) := by decide +kernel
theorem dX2_copyFrom_0 : decode cX2_copyFrom 0 = .ok (.aload_n 1, 1) := by decide +kernel
theorem dX2_copyFrom_1 : decode cX2_copyFrom 1 = .ok (.getfield 9, 3) := by decide +kernel
theorem dX2_copyFrom_4 : decode cX2_copyFrom 4 = .ok (.iconst 0, 1) := by decide +kernel
theorem dX2_copyFrom_5 : decode cX2_copyFrom 5 = .ok (.aload_n 0, 1) := by decide +kernel
theorem dX2_copyFrom_6 : decode cX2_copyFrom 6 = .ok (.getfield 9, 3) := by decide +kernel
theorem dX2_copyFrom_9 : decode cX2_copyFrom 9 = .ok (.iconst 0, 1) := by decide +kernel
theorem dX2_copyFrom_10 : decode cX2_copyFrom 10 = .ok (.aload_n 0, 1) := by decide +kernel
theorem dX2_copyFrom_11 : decode cX2_copyFrom 11 = .ok (.getfield 9, 3) := by decide +kernel
theorem dX2_copyFrom_14 : decode cX2_copyFrom 14 = .ok (.arraylength, 1) := by decide +kernel
theorem dX2_copyFrom_15 : decode cX2_copyFrom 15 = .ok (.invokestatic 40, 3) := by decide +kernel
theorem dX2_copyFrom_18 : decode cX2_copyFrom 18 = .ok (.aload_n 1, 1) := by decide +kernel
theorem dX2_copyFrom_19 : decode cX2_copyFrom 19 = .ok (.getfield 15, 3) := by decide +kernel
theorem dX2_copyFrom_22 : decode cX2_copyFrom 22 = .ok (.iconst 0, 1) := by decide +kernel
theorem dX2_copyFrom_23 : decode cX2_copyFrom 23 = .ok (.aload_n 0, 1) := by decide +kernel
theorem dX2_copyFrom_24 : decode cX2_copyFrom 24 = .ok (.getfield 15, 3) := by decide +kernel
theorem dX2_copyFrom_27 : decode cX2_copyFrom 27 = .ok (.iconst 0, 1) := by decide +kernel
theorem dX2_copyFrom_28 : decode cX2_copyFrom 28 = .ok (.aload_n 0, 1) := by decide +kernel
theorem dX2_copyFrom_29 : decode cX2_copyFrom 29 = .ok (.getfield 15, 3) := by decide +kernel
theorem dX2_copyFrom_32 : decode cX2_copyFrom 32 = .ok (.arraylength, 1) := by decide +kernel
theorem dX2_copyFrom_33 : decode cX2_copyFrom 33 = .ok (.invokestatic 40, 3) := by decide +kernel
theorem dX2_copyFrom_36 : decode cX2_copyFrom 36 = .ok (.aload_n 1, 1) := by decide +kernel
theorem dX2_copyFrom_37 : decode cX2_copyFrom 37 = .ok (.getfield 18, 3) := by decide +kernel
theorem dX2_copyFrom_40 : decode cX2_copyFrom 40 = .ok (.iconst 0, 1) := by decide +kernel
theorem dX2_copyFrom_41 : decode cX2_copyFrom 41 = .ok (.aload_n 0, 1) := by decide +kernel
theorem dX2_copyFrom_42 : decode cX2_copyFrom 42 = .ok (.getfield 18, 3) := by decide +kernel
theorem dX2_copyFrom_45 : decode cX2_copyFrom 45 = .ok (.iconst 0, 1) := by decide +kernel
theorem dX2_copyFrom_46 : decode cX2_copyFrom 46 = .ok (.aload_n 0, 1) := by decide +kernel
theorem dX2_copyFrom_47 : decode cX2_copyFrom 47 = .ok (.getfield 18, 3) := by decide +kernel
theorem dX2_copyFrom_50 : decode cX2_copyFrom 50 = .ok (.arraylength, 1) := by decide +kernel
theorem dX2_copyFrom_51 : decode cX2_copyFrom 51 = .ok (.invokestatic 40, 3) := by decide +kernel
theorem dX2_copyFrom_54 : decode cX2_copyFrom 54 = .ok (.aload_n 1, 1) := by decide +kernel
theorem dX2_copyFrom_55 : decode cX2_copyFrom 55 = .ok (.getfield 21, 3) := by decide +kernel
theorem dX2_copyFrom_58 : decode cX2_copyFrom 58 = .ok (.iconst 0, 1) := by decide +kernel
theorem dX2_copyFrom_59 : decode cX2_copyFrom 59 = .ok (.aload_n 0, 1) := by decide +kernel
theorem dX2_copyFrom_60 : decode cX2_copyFrom 60 = .ok (.getfield 21, 3) := by decide +kernel
theorem dX2_copyFrom_63 : decode cX2_copyFrom 63 = .ok (.iconst 0, 1) := by decide +kernel
theorem dX2_copyFrom_64 : decode cX2_copyFrom 64 = .ok (.aload_n 0, 1) := by decide +kernel
theorem dX2_copyFrom_65 : decode cX2_copyFrom 65 = .ok (.getfield 21, 3) := by decide +kernel
theorem dX2_copyFrom_68 : decode cX2_copyFrom 68 = .ok (.arraylength, 1) := by decide +kernel
theorem dX2_copyFrom_69 : decode cX2_copyFrom 69 = .ok (.invokestatic 40, 3) := by decide +kernel
theorem dX2_copyFrom_72 : decode cX2_copyFrom 72 = .ok (.aload_n 0, 1) := by decide +kernel
theorem dX2_copyFrom_73 : decode cX2_copyFrom 73 = .ok (.aload_n 1, 1) := by decide +kernel
theorem dX2_copyFrom_74 : decode cX2_copyFrom 74 = .ok (.getfield 28, 3) := by decide +kernel
theorem dX2_copyFrom_77 : decode cX2_copyFrom 77 = .ok (.putfield 28, 3) := by decide +kernel
theorem dX2_copyFrom_80 : decode cX2_copyFrom 80 = .ok (.aload_n 0, 1) := by decide +kernel
theorem dX2_copyFrom_81 : decode cX2_copyFrom 81 = .ok (.aload_n 1, 1) := by decide +kernel
theorem dX2_copyFrom_82 : decode cX2_copyFrom 82 = .ok (.getfield 31, 3) := by decide +kernel
theorem dX2_copyFrom_85 : decode cX2_copyFrom 85 = .ok (.putfield 31, 3) := by decide +kernel
theorem dX2_copyFrom_88 : decode cX2_copyFrom 88 = .ok (.aload_n 0, 1) := by decide +kernel
theorem dX2_copyFrom_89 : decode cX2_copyFrom 89 = .ok (.aload_n 1, 1) := by decide +kernel
theorem dX2_copyFrom_90 : decode cX2_copyFrom 90 = .ok (.getfield 24, 3) := by decide +kernel
theorem dX2_copyFrom_93 : decode cX2_copyFrom 93 = .ok (.putfield 24, 3) := by decide +kernel
theorem dX2_copyFrom_96 : decode cX2_copyFrom 96 = .ok (.aload_n 0, 1) := by decide +kernel
theorem dX2_copyFrom_97 : decode cX2_copyFrom 97 = .ok (.aload_n 1, 1) := by decide +kernel
theorem dX2_copyFrom_98 : decode cX2_copyFrom 98 = .ok (.getfield 34, 3) := by decide +kernel
theorem dX2_copyFrom_101 : decode cX2_copyFrom 101 = .ok (.putfield 34, 3) := by decide +kernel
theorem dX2_copyFrom_104 : decode cX2_copyFrom 104 = .ok (.aload_n 0, 1) := by decide +kernel
theorem dX2_copyFrom_105 : decode cX2_copyFrom 105 = .ok (.aload_n 1, 1) := by decide +kernel
theorem dX2_copyFrom_106 : decode cX2_copyFrom 106 = .ok (.getfield 37, 3) := by decide +kernel
theorem dX2_copyFrom_109 : decode cX2_copyFrom 109 = .ok (.putfield 37, 3) := by decide +kernel
theorem dX2_copyFrom_112 : decode cX2_copyFrom 112 = .ok (.return_, 1) := by decide +kernel
theorem dX2_hasOffice_0 : decode cX2_hasOffice 0 = .ok (.iload_n 1, 1) := by decide +kernel
theorem dX2_hasOffice_1 : decode cX2_hasOffice 1 = .ok (.ifCond .lt 15, 3) := by decide +kernel
theorem dX2_hasOffice_4 : decode cX2_hasOffice 4 = .ok (.iload_n 1, 1) := by decide +kernel
theorem dX2_hasOffice_5 : decode cX2_hasOffice 5 = .ok (.aload_n 0, 1) := by decide +kernel
theorem dX2_hasOffice_6 : decode cX2_hasOffice 6 = .ok (.getfield 24, 3) := by decide +kernel
theorem dX2_hasOffice_9 : decode cX2_hasOffice 9 = .ok (.if_icmp .ge 7, 3) := by decide +kernel
theorem dX2_hasOffice_12 : decode cX2_hasOffice 12 = .ok (.iconst 1, 1) := by decide +kernel
theorem dX2_hasOffice_13 : decode cX2_hasOffice 13 = .ok (.goto 4, 3) := by decide +kernel
theorem dX2_hasOffice_16 : decode cX2_hasOffice 16 = .ok (.iconst 0, 1) := by decide +kernel
theorem dX2_hasOffice_17 : decode cX2_hasOffice 17 = .ok (.ireturn, 1) := by decide +kernel
theorem dX2_hasItem_0 : decode cX2_hasItem 0 = .ok (.iload_n 1, 1) := by decide +kernel
theorem dX2_hasItem_1 : decode cX2_hasItem 1 = .ok (.ifCond .lt 15, 3) := by decide +kernel
theorem dX2_hasItem_4 : decode cX2_hasItem 4 = .ok (.iload_n 1, 1) := by decide +kernel
theorem dX2_hasItem_5 : decode cX2_hasItem 5 = .ok (.aload_n 0, 1) := by decide +kernel
theorem dX2_hasItem_6 : decode cX2_hasItem 6 = .ok (.getfield 34, 3) := by decide +kernel
theorem dX2_hasItem_9 : decode cX2_hasItem 9 = .ok (.if_icmp .ge 7, 3) := by decide +kernel
theorem dX2_hasItem_12 : decode cX2_hasItem 12 = .ok (.iconst 1, 1) := by decide +kernel
theorem dX2_hasItem_13 : decode cX2_hasItem 13 = .ok (.goto 4, 3) := by decide +kernel
theorem dX2_hasItem_16 : decode cX2_hasItem 16 = .ok (.iconst 0, 1) := by decide +kernel
theorem dX2_hasItem_17 : decode cX2_hasItem 17 = .ok (.ireturn, 1) := by decide +kernel
theorem dX2_hasLoss_0 : decode cX2_hasLoss 0 = .ok (.iload_n 1, 1) := by decide +kernel
theorem dX2_hasLoss_1 : decode cX2_hasLoss 1 = .ok (.ifCond .lt 15, 3) := by decide +kernel
theorem dX2_hasLoss_4 : decode cX2_hasLoss 4 = .ok (.iload_n 1, 1) := by decide +kernel
theorem dX2_hasLoss_5 : decode cX2_hasLoss 5 = .ok (.aload_n 0, 1) := by decide +kernel
theorem dX2_hasLoss_6 : decode cX2_hasLoss 6 = .ok (.getfield 37, 3) := by decide +kernel
theorem dX2_hasLoss_9 : decode cX2_hasLoss 9 = .ok (.if_icmp .ge 7, 3) := by decide +kernel
theorem dX2_hasLoss_12 : decode cX2_hasLoss 12 = .ok (.iconst 1, 1) := by decide +kernel
theorem dX2_hasLoss_13 : decode cX2_hasLoss 13 = .ok (.goto 4, 3) := by decide +kernel
theorem dX2_hasLoss_16 : decode cX2_hasLoss 16 = .ok (.iconst 0, 1) := by decide +kernel
theorem dX2_hasLoss_17 : decode cX2_hasLoss 17 = .ok (.ireturn, 1) := by decide +kernel
theorem dX2_setRate_0 : decode cX2_setRate 0 = .ok (.iload_n 2, 1) := by decide +kernel
theorem dX2_setRate_1 : decode cX2_setRate 1 = .ok (.istore 4, 2) := by decide +kernel
theorem dX2_setRate_3 : decode cX2_setRate 3 = .ok (.iload 4, 2) := by decide +kernel
theorem dX2_setRate_5 : decode cX2_setRate 5 = .ok (.bipush 39, 2) := by decide +kernel
theorem dX2_setRate_7 : decode cX2_setRate 7 = .ok (.if_icmp .gt 22, 3) := by decide +kernel
theorem dX2_setRate_10 : decode cX2_setRate 10 = .ok (.aload_n 0, 1) := by decide +kernel
theorem dX2_setRate_11 : decode cX2_setRate 11 = .ok (.getfield 9, 3) := by decide +kernel
theorem dX2_setRate_14 : decode cX2_setRate 14 = .ok (.iload_n 1, 1) := by decide +kernel
theorem dX2_setRate_15 : decode cX2_setRate 15 = .ok (.bipush 40, 2) := by decide +kernel
theorem dX2_setRate_17 : decode cX2_setRate 17 = .ok (.imul, 1) := by decide +kernel
theorem dX2_setRate_18 : decode cX2_setRate 18 = .ok (.iload 4, 2) := by decide +kernel
theorem dX2_setRate_20 : decode cX2_setRate 20 = .ok (.iadd, 1) := by decide +kernel
theorem dX2_setRate_21 : decode cX2_setRate 21 = .ok (.iload_n 3, 1) := by decide +kernel
theorem dX2_setRate_22 : decode cX2_setRate 22 = .ok (.iastore, 1) := by decide +kernel
theorem dX2_setRate_23 : decode cX2_setRate 23 = .ok (.iinc 4 1, 3) := by decide +kernel
theorem dX2_setRate_26 : decode cX2_setRate 26 = .ok (.goto (-23), 3) := by decide +kernel
theorem dX2_setRate_29 : decode cX2_setRate 29 = .ok (.return_, 1) := by decide +kernel
theorem dX2_addItem_0 : decode cX2_addItem 0 = .ok (.aload_n 0, 1) := by decide +kernel
theorem dX2_addItem_1 : decode cX2_addItem 1 = .ok (.getfield 34, 3) := by decide +kernel
theorem dX2_addItem_4 : decode cX2_addItem 4 = .ok (.iconst 5, 1) := by decide +kernel
theorem dX2_addItem_5 : decode cX2_addItem 5 = .ok (.imul, 1) := by decide +kernel
theorem dX2_addItem_6 : decode cX2_addItem 6 = .ok (.istore 6, 2) := by decide +kernel
theorem dX2_addItem_8 : decode cX2_addItem 8 = .ok (.aload_n 0, 1) := by decide +kernel
theorem dX2_addItem_9 : decode cX2_addItem 9 = .ok (.getfield 18, 3) := by decide +kernel
theorem dX2_addItem_12 : decode cX2_addItem 12 = .ok (.iload 6, 2) := by decide +kernel
theorem dX2_addItem_14 : decode cX2_addItem 14 = .ok (.iconst 0, 1) := by decide +kernel
theorem dX2_addItem_15 : decode cX2_addItem 15 = .ok (.iadd, 1) := by decide +kernel
theorem dX2_addItem_16 : decode cX2_addItem 16 = .ok (.iload_n 1, 1) := by decide +kernel
theorem dX2_addItem_17 : decode cX2_addItem 17 = .ok (.iastore, 1) := by decide +kernel
theorem dX2_addItem_18 : decode cX2_addItem 18 = .ok (.aload_n 0, 1) := by decide +kernel
theorem dX2_addItem_19 : decode cX2_addItem 19 = .ok (.getfield 18, 3) := by decide +kernel
theorem dX2_addItem_22 : decode cX2_addItem 22 = .ok (.iload 6, 2) := by decide +kernel
theorem dX2_addItem_24 : decode cX2_addItem 24 = .ok (.iconst 1, 1) := by decide +kernel
theorem dX2_addItem_25 : decode cX2_addItem 25 = .ok (.iadd, 1) := by decide +kernel
theorem dX2_addItem_26 : decode cX2_addItem 26 = .ok (.iload_n 2, 1) := by decide +kernel
theorem dX2_addItem_27 : decode cX2_addItem 27 = .ok (.ifCond .eq 7, 3) := by decide +kernel
theorem dX2_addItem_30 : decode cX2_addItem 30 = .ok (.iconst 1, 1) := by decide +kernel
theorem dX2_addItem_31 : decode cX2_addItem 31 = .ok (.goto 4, 3) := by decide +kernel
theorem dX2_addItem_34 : decode cX2_addItem 34 = .ok (.iconst 0, 1) := by decide +kernel
theorem dX2_addItem_35 : decode cX2_addItem 35 = .ok (.iastore, 1) := by decide +kernel
theorem dX2_addItem_36 : decode cX2_addItem 36 = .ok (.aload_n 0, 1) := by decide +kernel
theorem dX2_addItem_37 : decode cX2_addItem 37 = .ok (.getfield 18, 3) := by decide +kernel
theorem dX2_addItem_40 : decode cX2_addItem 40 = .ok (.iload 6, 2) := by decide +kernel
theorem dX2_addItem_42 : decode cX2_addItem 42 = .ok (.iconst 2, 1) := by decide +kernel
theorem dX2_addItem_43 : decode cX2_addItem 43 = .ok (.iadd, 1) := by decide +kernel
theorem dX2_addItem_44 : decode cX2_addItem 44 = .ok (.iload_n 3, 1) := by decide +kernel
theorem dX2_addItem_45 : decode cX2_addItem 45 = .ok (.iastore, 1) := by decide +kernel
theorem dX2_addItem_46 : decode cX2_addItem 46 = .ok (.aload_n 0, 1) := by decide +kernel
theorem dX2_addItem_47 : decode cX2_addItem 47 = .ok (.getfield 18, 3) := by decide +kernel
theorem dX2_addItem_50 : decode cX2_addItem 50 = .ok (.iload 6, 2) := by decide +kernel
theorem dX2_addItem_52 : decode cX2_addItem 52 = .ok (.iconst 3, 1) := by decide +kernel
theorem dX2_addItem_53 : decode cX2_addItem 53 = .ok (.iadd, 1) := by decide +kernel
theorem dX2_addItem_54 : decode cX2_addItem 54 = .ok (.iload 4, 2) := by decide +kernel
theorem dX2_addItem_56 : decode cX2_addItem 56 = .ok (.iastore, 1) := by decide +kernel
theorem dX2_addItem_57 : decode cX2_addItem 57 = .ok (.aload_n 0, 1) := by decide +kernel
theorem dX2_addItem_58 : decode cX2_addItem 58 = .ok (.getfield 18, 3) := by decide +kernel
theorem dX2_addItem_61 : decode cX2_addItem 61 = .ok (.iload 6, 2) := by decide +kernel
theorem dX2_addItem_63 : decode cX2_addItem 63 = .ok (.iconst 4, 1) := by decide +kernel
theorem dX2_addItem_64 : decode cX2_addItem 64 = .ok (.iadd, 1) := by decide +kernel
theorem dX2_addItem_65 : decode cX2_addItem 65 = .ok (.iload 5, 2) := by decide +kernel
theorem dX2_addItem_67 : decode cX2_addItem 67 = .ok (.iastore, 1) := by decide +kernel
theorem dX2_addItem_68 : decode cX2_addItem 68 = .ok (.aload_n 0, 1) := by decide +kernel
theorem dX2_addItem_69 : decode cX2_addItem 69 = .ok (.dup, 1) := by decide +kernel
theorem dX2_addItem_70 : decode cX2_addItem 70 = .ok (.getfield 34, 3) := by decide +kernel
theorem dX2_addItem_73 : decode cX2_addItem 73 = .ok (.iconst 1, 1) := by decide +kernel
theorem dX2_addItem_74 : decode cX2_addItem 74 = .ok (.iadd, 1) := by decide +kernel
theorem dX2_addItem_75 : decode cX2_addItem 75 = .ok (.putfield 34, 3) := by decide +kernel
theorem dX2_addItem_78 : decode cX2_addItem 78 = .ok (.aload_n 0, 1) := by decide +kernel
theorem dX2_addItem_79 : decode cX2_addItem 79 = .ok (.getfield 34, 3) := by decide +kernel
theorem dX2_addItem_82 : decode cX2_addItem 82 = .ok (.iconst 1, 1) := by decide +kernel
theorem dX2_addItem_83 : decode cX2_addItem 83 = .ok (.isub, 1) := by decide +kernel
theorem dX2_addItem_84 : decode cX2_addItem 84 = .ok (.ireturn, 1) := by decide +kernel
theorem dX2_addLoss_0 : decode cX2_addLoss 0 = .ok (.aload_n 0, 1) := by decide +kernel
theorem dX2_addLoss_1 : decode cX2_addLoss 1 = .ok (.getfield 37, 3) := by decide +kernel
theorem dX2_addLoss_4 : decode cX2_addLoss 4 = .ok (.iconst 4, 1) := by decide +kernel
theorem dX2_addLoss_5 : decode cX2_addLoss 5 = .ok (.imul, 1) := by decide +kernel
theorem dX2_addLoss_6 : decode cX2_addLoss 6 = .ok (.istore 4, 2) := by decide +kernel
theorem dX2_addLoss_8 : decode cX2_addLoss 8 = .ok (.aload_n 0, 1) := by decide +kernel
theorem dX2_addLoss_9 : decode cX2_addLoss 9 = .ok (.getfield 21, 3) := by decide +kernel
theorem dX2_addLoss_12 : decode cX2_addLoss 12 = .ok (.iload 4, 2) := by decide +kernel
theorem dX2_addLoss_14 : decode cX2_addLoss 14 = .ok (.iconst 0, 1) := by decide +kernel
theorem dX2_addLoss_15 : decode cX2_addLoss 15 = .ok (.iadd, 1) := by decide +kernel
theorem dX2_addLoss_16 : decode cX2_addLoss 16 = .ok (.iload_n 1, 1) := by decide +kernel
theorem dX2_addLoss_17 : decode cX2_addLoss 17 = .ok (.iastore, 1) := by decide +kernel
theorem dX2_addLoss_18 : decode cX2_addLoss 18 = .ok (.aload_n 0, 1) := by decide +kernel
theorem dX2_addLoss_19 : decode cX2_addLoss 19 = .ok (.getfield 21, 3) := by decide +kernel
theorem dX2_addLoss_22 : decode cX2_addLoss 22 = .ok (.iload 4, 2) := by decide +kernel
theorem dX2_addLoss_24 : decode cX2_addLoss 24 = .ok (.iconst 1, 1) := by decide +kernel
theorem dX2_addLoss_25 : decode cX2_addLoss 25 = .ok (.iadd, 1) := by decide +kernel
theorem dX2_addLoss_26 : decode cX2_addLoss 26 = .ok (.iload_n 2, 1) := by decide +kernel
theorem dX2_addLoss_27 : decode cX2_addLoss 27 = .ok (.iastore, 1) := by decide +kernel
theorem dX2_addLoss_28 : decode cX2_addLoss 28 = .ok (.aload_n 0, 1) := by decide +kernel
theorem dX2_addLoss_29 : decode cX2_addLoss 29 = .ok (.getfield 21, 3) := by decide +kernel
theorem dX2_addLoss_32 : decode cX2_addLoss 32 = .ok (.iload 4, 2) := by decide +kernel
theorem dX2_addLoss_34 : decode cX2_addLoss 34 = .ok (.iconst 2, 1) := by decide +kernel
theorem dX2_addLoss_35 : decode cX2_addLoss 35 = .ok (.iadd, 1) := by decide +kernel
theorem dX2_addLoss_36 : decode cX2_addLoss 36 = .ok (.iload_n 3, 1) := by decide +kernel
theorem dX2_addLoss_37 : decode cX2_addLoss 37 = .ok (.iastore, 1) := by decide +kernel
theorem dX2_addLoss_38 : decode cX2_addLoss 38 = .ok (.aload_n 0, 1) := by decide +kernel
theorem dX2_addLoss_39 : decode cX2_addLoss 39 = .ok (.getfield 21, 3) := by decide +kernel
theorem dX2_addLoss_42 : decode cX2_addLoss 42 = .ok (.iload 4, 2) := by decide +kernel
theorem dX2_addLoss_44 : decode cX2_addLoss 44 = .ok (.iconst 3, 1) := by decide +kernel
theorem dX2_addLoss_45 : decode cX2_addLoss 45 = .ok (.iadd, 1) := by decide +kernel
theorem dX2_addLoss_46 : decode cX2_addLoss 46 = .ok (.iload_n 2, 1) := by decide +kernel
theorem dX2_addLoss_47 : decode cX2_addLoss 47 = .ok (.iastore, 1) := by decide +kernel
theorem dX2_addLoss_48 : decode cX2_addLoss 48 = .ok (.aload_n 0, 1) := by decide +kernel
theorem dX2_addLoss_49 : decode cX2_addLoss 49 = .ok (.dup, 1) := by decide +kernel
theorem dX2_addLoss_50 : decode cX2_addLoss 50 = .ok (.getfield 37, 3) := by decide +kernel
theorem dX2_addLoss_53 : decode cX2_addLoss 53 = .ok (.iconst 1, 1) := by decide +kernel
theorem dX2_addLoss_54 : decode cX2_addLoss 54 = .ok (.iadd, 1) := by decide +kernel
theorem dX2_addLoss_55 : decode cX2_addLoss 55 = .ok (.putfield 37, 3) := by decide +kernel
theorem dX2_addLoss_58 : decode cX2_addLoss 58 = .ok (.aload_n 0, 1) := by decide +kernel
theorem dX2_addLoss_59 : decode cX2_addLoss 59 = .ok (.getfield 37, 3) := by decide +kernel
theorem dX2_addLoss_62 : decode cX2_addLoss 62 = .ok (.iconst 1, 1) := by decide +kernel
theorem dX2_addLoss_63 : decode cX2_addLoss 63 = .ok (.isub, 1) := by decide +kernel
theorem dX2_addLoss_64 : decode cX2_addLoss 64 = .ok (.ireturn, 1) := by decide +kernel
theorem dX2_bringForward_0 : decode cX2_bringForward 0 = .ok (.iload_n 1, 1) := by decide +kernel
theorem dX2_bringForward_1 : decode cX2_bringForward 1 = .ok (.iconst 5, 1) := by decide +kernel
theorem dX2_bringForward_2 : decode cX2_bringForward 2 = .ok (.imul, 1) := by decide +kernel
theorem dX2_bringForward_3 : decode cX2_bringForward 3 = .ok (.istore_n 3, 1) := by decide +kernel
theorem dX2_bringForward_4 : decode cX2_bringForward 4 = .ok (.aload_n 0, 1) := by decide +kernel
theorem dX2_bringForward_5 : decode cX2_bringForward 5 = .ok (.getfield 18, 3) := by decide +kernel
theorem dX2_bringForward_8 : decode cX2_bringForward 8 = .ok (.iload_n 3, 1) := by decide +kernel
theorem dX2_bringForward_9 : decode cX2_bringForward 9 = .ok (.iconst 2, 1) := by decide +kernel
theorem dX2_bringForward_10 : decode cX2_bringForward 10 = .ok (.iadd, 1) := by decide +kernel
theorem dX2_bringForward_11 : decode cX2_bringForward 11 = .ok (.iload_n 2, 1) := by decide +kernel
theorem dX2_bringForward_12 : decode cX2_bringForward 12 = .ok (.iastore, 1) := by decide +kernel
theorem dX2_bringForward_13 : decode cX2_bringForward 13 = .ok (.aload_n 0, 1) := by decide +kernel
theorem dX2_bringForward_14 : decode cX2_bringForward 14 = .ok (.getfield 18, 3) := by decide +kernel
theorem dX2_bringForward_17 : decode cX2_bringForward 17 = .ok (.iload_n 3, 1) := by decide +kernel
theorem dX2_bringForward_18 : decode cX2_bringForward 18 = .ok (.iconst 3, 1) := by decide +kernel
theorem dX2_bringForward_19 : decode cX2_bringForward 19 = .ok (.iadd, 1) := by decide +kernel
theorem dX2_bringForward_20 : decode cX2_bringForward 20 = .ok (.aload_n 0, 1) := by decide +kernel
theorem dX2_bringForward_21 : decode cX2_bringForward 21 = .ok (.getfield 28, 3) := by decide +kernel
theorem dX2_bringForward_24 : decode cX2_bringForward 24 = .ok (.iconst 1, 1) := by decide +kernel
theorem dX2_bringForward_25 : decode cX2_bringForward 25 = .ok (.iadd, 1) := by decide +kernel
theorem dX2_bringForward_26 : decode cX2_bringForward 26 = .ok (.iastore, 1) := by decide +kernel
theorem dX2_bringForward_27 : decode cX2_bringForward 27 = .ok (.aload_n 0, 1) := by decide +kernel
theorem dX2_bringForward_28 : decode cX2_bringForward 28 = .ok (.getfield 18, 3) := by decide +kernel
theorem dX2_bringForward_31 : decode cX2_bringForward 31 = .ok (.iload_n 3, 1) := by decide +kernel
theorem dX2_bringForward_32 : decode cX2_bringForward 32 = .ok (.iconst 4, 1) := by decide +kernel
theorem dX2_bringForward_33 : decode cX2_bringForward 33 = .ok (.iadd, 1) := by decide +kernel
theorem dX2_bringForward_34 : decode cX2_bringForward 34 = .ok (.aload_n 0, 1) := by decide +kernel
theorem dX2_bringForward_35 : decode cX2_bringForward 35 = .ok (.getfield 28, 3) := by decide +kernel
theorem dX2_bringForward_38 : decode cX2_bringForward 38 = .ok (.iconst 1, 1) := by decide +kernel
theorem dX2_bringForward_39 : decode cX2_bringForward 39 = .ok (.iadd, 1) := by decide +kernel
theorem dX2_bringForward_40 : decode cX2_bringForward 40 = .ok (.iastore, 1) := by decide +kernel
theorem dX2_bringForward_41 : decode cX2_bringForward 41 = .ok (.return_, 1) := by decide +kernel
theorem dX2_isItemOf_0 : decode cX2_isItemOf 0 = .ok (.aload_n 0, 1) := by decide +kernel
theorem dX2_isItemOf_1 : decode cX2_isItemOf 1 = .ok (.getfield 18, 3) := by decide +kernel
theorem dX2_isItemOf_4 : decode cX2_isItemOf 4 = .ok (.iload_n 1, 1) := by decide +kernel
theorem dX2_isItemOf_5 : decode cX2_isItemOf 5 = .ok (.iconst 5, 1) := by decide +kernel
theorem dX2_isItemOf_6 : decode cX2_isItemOf 6 = .ok (.imul, 1) := by decide +kernel
theorem dX2_isItemOf_7 : decode cX2_isItemOf 7 = .ok (.iconst 0, 1) := by decide +kernel
theorem dX2_isItemOf_8 : decode cX2_isItemOf 8 = .ok (.iadd, 1) := by decide +kernel
theorem dX2_isItemOf_9 : decode cX2_isItemOf 9 = .ok (.iaload, 1) := by decide +kernel
theorem dX2_isItemOf_10 : decode cX2_isItemOf 10 = .ok (.iload_n 2, 1) := by decide +kernel
theorem dX2_isItemOf_11 : decode cX2_isItemOf 11 = .ok (.if_icmp .ne 7, 3) := by decide +kernel
theorem dX2_isItemOf_14 : decode cX2_isItemOf 14 = .ok (.iconst 1, 1) := by decide +kernel
theorem dX2_isItemOf_15 : decode cX2_isItemOf 15 = .ok (.goto 4, 3) := by decide +kernel
theorem dX2_isItemOf_18 : decode cX2_isItemOf 18 = .ok (.iconst 0, 1) := by decide +kernel
theorem dX2_isItemOf_19 : decode cX2_isItemOf 19 = .ok (.ireturn, 1) := by decide +kernel
theorem dX2_isTaxable_0 : decode cX2_isTaxable 0 = .ok (.aload_n 0, 1) := by decide +kernel
theorem dX2_isTaxable_1 : decode cX2_isTaxable 1 = .ok (.getfield 18, 3) := by decide +kernel
theorem dX2_isTaxable_4 : decode cX2_isTaxable 4 = .ok (.iload_n 1, 1) := by decide +kernel
theorem dX2_isTaxable_5 : decode cX2_isTaxable 5 = .ok (.iconst 5, 1) := by decide +kernel
theorem dX2_isTaxable_6 : decode cX2_isTaxable 6 = .ok (.imul, 1) := by decide +kernel
theorem dX2_isTaxable_7 : decode cX2_isTaxable 7 = .ok (.iconst 1, 1) := by decide +kernel
theorem dX2_isTaxable_8 : decode cX2_isTaxable 8 = .ok (.iadd, 1) := by decide +kernel
theorem dX2_isTaxable_9 : decode cX2_isTaxable 9 = .ok (.iaload, 1) := by decide +kernel
theorem dX2_isTaxable_10 : decode cX2_isTaxable 10 = .ok (.iconst 1, 1) := by decide +kernel
theorem dX2_isTaxable_11 : decode cX2_isTaxable 11 = .ok (.if_icmp .ne 7, 3) := by decide +kernel
theorem dX2_isTaxable_14 : decode cX2_isTaxable 14 = .ok (.iconst 1, 1) := by decide +kernel
theorem dX2_isTaxable_15 : decode cX2_isTaxable 15 = .ok (.goto 4, 3) := by decide +kernel
theorem dX2_isTaxable_18 : decode cX2_isTaxable 18 = .ok (.iconst 0, 1) := by decide +kernel
theorem dX2_isTaxable_19 : decode cX2_isTaxable 19 = .ok (.ireturn, 1) := by decide +kernel
theorem dX2_lastOf_0 : decode cX2_lastOf 0 = .ok (.aload_n 0, 1) := by decide +kernel
theorem dX2_lastOf_1 : decode cX2_lastOf 1 = .ok (.getfield 18, 3) := by decide +kernel
theorem dX2_lastOf_4 : decode cX2_lastOf 4 = .ok (.iload_n 1, 1) := by decide +kernel
theorem dX2_lastOf_5 : decode cX2_lastOf 5 = .ok (.iconst 5, 1) := by decide +kernel
theorem dX2_lastOf_6 : decode cX2_lastOf 6 = .ok (.imul, 1) := by decide +kernel
theorem dX2_lastOf_7 : decode cX2_lastOf 7 = .ok (.iconst 4, 1) := by decide +kernel
theorem dX2_lastOf_8 : decode cX2_lastOf 8 = .ok (.iadd, 1) := by decide +kernel
theorem dX2_lastOf_9 : decode cX2_lastOf 9 = .ok (.iaload, 1) := by decide +kernel
theorem dX2_lastOf_10 : decode cX2_lastOf 10 = .ok (.ireturn, 1) := by decide +kernel
theorem dX2_partsUpTo_0 : decode cX2_partsUpTo 0 = .ok (.iload_n 1, 1) := by decide +kernel
theorem dX2_partsUpTo_1 : decode cX2_partsUpTo 1 = .ok (.iconst 5, 1) := by decide +kernel
theorem dX2_partsUpTo_2 : decode cX2_partsUpTo 2 = .ok (.imul, 1) := by decide +kernel
theorem dX2_partsUpTo_3 : decode cX2_partsUpTo 3 = .ok (.istore_n 3, 1) := by decide +kernel
theorem dX2_partsUpTo_4 : decode cX2_partsUpTo 4 = .ok (.aload_n 0, 1) := by decide +kernel
theorem dX2_partsUpTo_5 : decode cX2_partsUpTo 5 = .ok (.getfield 18, 3) := by decide +kernel
theorem dX2_partsUpTo_8 : decode cX2_partsUpTo 8 = .ok (.iload_n 3, 1) := by decide +kernel
theorem dX2_partsUpTo_9 : decode cX2_partsUpTo 9 = .ok (.iconst 3, 1) := by decide +kernel
theorem dX2_partsUpTo_10 : decode cX2_partsUpTo 10 = .ok (.iadd, 1) := by decide +kernel
theorem dX2_partsUpTo_11 : decode cX2_partsUpTo 11 = .ok (.iaload, 1) := by decide +kernel
theorem dX2_partsUpTo_12 : decode cX2_partsUpTo 12 = .ok (.istore 4, 2) := by decide +kernel
theorem dX2_partsUpTo_14 : decode cX2_partsUpTo 14 = .ok (.aload_n 0, 1) := by decide +kernel
theorem dX2_partsUpTo_15 : decode cX2_partsUpTo 15 = .ok (.getfield 18, 3) := by decide +kernel
theorem dX2_partsUpTo_18 : decode cX2_partsUpTo 18 = .ok (.iload_n 3, 1) := by decide +kernel
theorem dX2_partsUpTo_19 : decode cX2_partsUpTo 19 = .ok (.iconst 4, 1) := by decide +kernel
theorem dX2_partsUpTo_20 : decode cX2_partsUpTo 20 = .ok (.iadd, 1) := by decide +kernel
theorem dX2_partsUpTo_21 : decode cX2_partsUpTo 21 = .ok (.iaload, 1) := by decide +kernel
theorem dX2_partsUpTo_22 : decode cX2_partsUpTo 22 = .ok (.iload 4, 2) := by decide +kernel
theorem dX2_partsUpTo_24 : decode cX2_partsUpTo 24 = .ok (.isub, 1) := by decide +kernel
theorem dX2_partsUpTo_25 : decode cX2_partsUpTo 25 = .ok (.iconst 1, 1) := by decide +kernel
theorem dX2_partsUpTo_26 : decode cX2_partsUpTo 26 = .ok (.iadd, 1) := by decide +kernel
theorem dX2_partsUpTo_27 : decode cX2_partsUpTo 27 = .ok (.istore 5, 2) := by decide +kernel
theorem dX2_partsUpTo_29 : decode cX2_partsUpTo 29 = .ok (.iload_n 2, 1) := by decide +kernel
theorem dX2_partsUpTo_30 : decode cX2_partsUpTo 30 = .ok (.iload 4, 2) := by decide +kernel
theorem dX2_partsUpTo_32 : decode cX2_partsUpTo 32 = .ok (.isub, 1) := by decide +kernel
theorem dX2_partsUpTo_33 : decode cX2_partsUpTo 33 = .ok (.iconst 1, 1) := by decide +kernel
theorem dX2_partsUpTo_34 : decode cX2_partsUpTo 34 = .ok (.iadd, 1) := by decide +kernel
theorem dX2_partsUpTo_35 : decode cX2_partsUpTo 35 = .ok (.istore 6, 2) := by decide +kernel
theorem dX2_partsUpTo_37 : decode cX2_partsUpTo 37 = .ok (.iload 6, 2) := by decide +kernel
theorem dX2_partsUpTo_39 : decode cX2_partsUpTo 39 = .ok (.ifCond .le 8, 3) := by decide +kernel
theorem dX2_partsUpTo_42 : decode cX2_partsUpTo 42 = .ok (.iload 5, 2) := by decide +kernel
theorem dX2_partsUpTo_44 : decode cX2_partsUpTo 44 = .ok (.ifCond .gt 5, 3) := by decide +kernel
theorem dX2_partsUpTo_47 : decode cX2_partsUpTo 47 = .ok (.iconst 0, 1) := by decide +kernel
theorem dX2_partsUpTo_48 : decode cX2_partsUpTo 48 = .ok (.ireturn, 1) := by decide +kernel
theorem dX2_partsUpTo_49 : decode cX2_partsUpTo 49 = .ok (.iload 6, 2) := by decide +kernel
theorem dX2_partsUpTo_51 : decode cX2_partsUpTo 51 = .ok (.iload 5, 2) := by decide +kernel
theorem dX2_partsUpTo_53 : decode cX2_partsUpTo 53 = .ok (.if_icmp .lt 14, 3) := by decide +kernel
theorem dX2_partsUpTo_56 : decode cX2_partsUpTo 56 = .ok (.aload_n 0, 1) := by decide +kernel
theorem dX2_partsUpTo_57 : decode cX2_partsUpTo 57 = .ok (.getfield 18, 3) := by decide +kernel
theorem dX2_partsUpTo_60 : decode cX2_partsUpTo 60 = .ok (.iload_n 3, 1) := by decide +kernel
theorem dX2_partsUpTo_61 : decode cX2_partsUpTo 61 = .ok (.iconst 2, 1) := by decide +kernel
theorem dX2_partsUpTo_62 : decode cX2_partsUpTo 62 = .ok (.iadd, 1) := by decide +kernel
theorem dX2_partsUpTo_63 : decode cX2_partsUpTo 63 = .ok (.iaload, 1) := by decide +kernel
theorem dX2_partsUpTo_64 : decode cX2_partsUpTo 64 = .ok (.goto 17, 3) := by decide +kernel
theorem dX2_partsUpTo_67 : decode cX2_partsUpTo 67 = .ok (.aload_n 0, 1) := by decide +kernel
theorem dX2_partsUpTo_68 : decode cX2_partsUpTo 68 = .ok (.getfield 18, 3) := by decide +kernel
theorem dX2_partsUpTo_71 : decode cX2_partsUpTo 71 = .ok (.iload_n 3, 1) := by decide +kernel
theorem dX2_partsUpTo_72 : decode cX2_partsUpTo 72 = .ok (.iconst 2, 1) := by decide +kernel
theorem dX2_partsUpTo_73 : decode cX2_partsUpTo 73 = .ok (.iadd, 1) := by decide +kernel
theorem dX2_partsUpTo_74 : decode cX2_partsUpTo 74 = .ok (.iaload, 1) := by decide +kernel
theorem dX2_partsUpTo_75 : decode cX2_partsUpTo 75 = .ok (.iload 6, 2) := by decide +kernel
theorem dX2_partsUpTo_77 : decode cX2_partsUpTo 77 = .ok (.imul, 1) := by decide +kernel
theorem dX2_partsUpTo_78 : decode cX2_partsUpTo 78 = .ok (.iload 5, 2) := by decide +kernel
theorem dX2_partsUpTo_80 : decode cX2_partsUpTo 80 = .ok (.idiv, 1) := by decide +kernel
theorem dX2_partsUpTo_81 : decode cX2_partsUpTo 81 = .ok (.ireturn, 1) := by decide +kernel
theorem dX2_partOf_0 : decode cX2_partOf 0 = .ok (.aload_n 0, 1) := by decide +kernel
theorem dX2_partOf_1 : decode cX2_partOf 1 = .ok (.iload_n 1, 1) := by decide +kernel
theorem dX2_partOf_2 : decode cX2_partOf 2 = .ok (.iload_n 2, 1) := by decide +kernel
theorem dX2_partOf_3 : decode cX2_partOf 3 = .ok (.invokevirtual 46, 3) := by decide +kernel
theorem dX2_partOf_6 : decode cX2_partOf 6 = .ok (.aload_n 0, 1) := by decide +kernel
theorem dX2_partOf_7 : decode cX2_partOf 7 = .ok (.iload_n 1, 1) := by decide +kernel
theorem dX2_partOf_8 : decode cX2_partOf 8 = .ok (.iload_n 2, 1) := by decide +kernel
theorem dX2_partOf_9 : decode cX2_partOf 9 = .ok (.iconst 1, 1) := by decide +kernel
theorem dX2_partOf_10 : decode cX2_partOf 10 = .ok (.isub, 1) := by decide +kernel
theorem dX2_partOf_11 : decode cX2_partOf 11 = .ok (.invokevirtual 46, 3) := by decide +kernel
theorem dX2_partOf_14 : decode cX2_partOf 14 = .ok (.isub, 1) := by decide +kernel
theorem dX2_partOf_15 : decode cX2_partOf 15 = .ok (.ireturn, 1) := by decide +kernel
theorem dX2_openOf_0 : decode cX2_openOf 0 = .ok (.aload_n 0, 1) := by decide +kernel
theorem dX2_openOf_1 : decode cX2_openOf 1 = .ok (.getfield 18, 3) := by decide +kernel
theorem dX2_openOf_4 : decode cX2_openOf 4 = .ok (.iload_n 1, 1) := by decide +kernel
theorem dX2_openOf_5 : decode cX2_openOf 5 = .ok (.iconst 5, 1) := by decide +kernel
theorem dX2_openOf_6 : decode cX2_openOf 6 = .ok (.imul, 1) := by decide +kernel
theorem dX2_openOf_7 : decode cX2_openOf 7 = .ok (.iconst 2, 1) := by decide +kernel
theorem dX2_openOf_8 : decode cX2_openOf 8 = .ok (.iadd, 1) := by decide +kernel
theorem dX2_openOf_9 : decode cX2_openOf 9 = .ok (.iaload, 1) := by decide +kernel
theorem dX2_openOf_10 : decode cX2_openOf 10 = .ok (.aload_n 0, 1) := by decide +kernel
theorem dX2_openOf_11 : decode cX2_openOf 11 = .ok (.iload_n 1, 1) := by decide +kernel
theorem dX2_openOf_12 : decode cX2_openOf 12 = .ok (.aload_n 0, 1) := by decide +kernel
theorem dX2_openOf_13 : decode cX2_openOf 13 = .ok (.getfield 28, 3) := by decide +kernel
theorem dX2_openOf_16 : decode cX2_openOf 16 = .ok (.invokevirtual 46, 3) := by decide +kernel
theorem dX2_openOf_19 : decode cX2_openOf 19 = .ok (.isub, 1) := by decide +kernel
theorem dX2_openOf_20 : decode cX2_openOf 20 = .ok (.ireturn, 1) := by decide +kernel
theorem dX2_itemsWithNothingOpen_0 : decode cX2_itemsWithNothingOpen 0 = .ok (.iconst 0, 1) := by decide +kernel
theorem dX2_itemsWithNothingOpen_1 : decode cX2_itemsWithNothingOpen 1 = .ok (.istore_n 1, 1) := by decide +kernel
theorem dX2_itemsWithNothingOpen_2 : decode cX2_itemsWithNothingOpen 2 = .ok (.iconst 0, 1) := by decide +kernel
theorem dX2_itemsWithNothingOpen_3 : decode cX2_itemsWithNothingOpen 3 = .ok (.istore_n 2, 1) := by decide +kernel
theorem dX2_itemsWithNothingOpen_4 : decode cX2_itemsWithNothingOpen 4 = .ok (.iload_n 2, 1) := by decide +kernel
theorem dX2_itemsWithNothingOpen_5 : decode cX2_itemsWithNothingOpen 5 = .ok (.aload_n 0, 1) := by decide +kernel
theorem dX2_itemsWithNothingOpen_6 : decode cX2_itemsWithNothingOpen 6 = .ok (.getfield 34, 3) := by decide +kernel
theorem dX2_itemsWithNothingOpen_9 : decode cX2_itemsWithNothingOpen 9 = .ok (.if_icmp .ge 20, 3) := by decide +kernel
theorem dX2_itemsWithNothingOpen_12 : decode cX2_itemsWithNothingOpen 12 = .ok (.aload_n 0, 1) := by decide +kernel
theorem dX2_itemsWithNothingOpen_13 : decode cX2_itemsWithNothingOpen 13 = .ok (.iload_n 2, 1) := by decide +kernel
theorem dX2_itemsWithNothingOpen_14 : decode cX2_itemsWithNothingOpen 14 = .ok (.invokevirtual 50, 3) := by decide +kernel
theorem dX2_itemsWithNothingOpen_17 : decode cX2_itemsWithNothingOpen 17 = .ok (.ifCond .ne 6, 3) := by decide +kernel
theorem dX2_itemsWithNothingOpen_20 : decode cX2_itemsWithNothingOpen 20 = .ok (.iinc 1 1, 3) := by decide +kernel
theorem dX2_itemsWithNothingOpen_23 : decode cX2_itemsWithNothingOpen 23 = .ok (.iinc 2 1, 3) := by decide +kernel
theorem dX2_itemsWithNothingOpen_26 : decode cX2_itemsWithNothingOpen 26 = .ok (.goto (-22), 3) := by decide +kernel
theorem dX2_itemsWithNothingOpen_29 : decode cX2_itemsWithNothingOpen 29 = .ok (.iload_n 1, 1) := by decide +kernel
theorem dX2_itemsWithNothingOpen_30 : decode cX2_itemsWithNothingOpen 30 = .ok (.ireturn, 1) := by decide +kernel
theorem dX2_leftOf_0 : decode cX2_leftOf 0 = .ok (.iload_n 1, 1) := by decide +kernel
theorem dX2_leftOf_1 : decode cX2_leftOf 1 = .ok (.iconst 4, 1) := by decide +kernel
theorem dX2_leftOf_2 : decode cX2_leftOf 2 = .ok (.imul, 1) := by decide +kernel
theorem dX2_leftOf_3 : decode cX2_leftOf 3 = .ok (.istore 4, 2) := by decide +kernel
theorem dX2_leftOf_5 : decode cX2_leftOf 5 = .ok (.aload_n 0, 1) := by decide +kernel
theorem dX2_leftOf_6 : decode cX2_leftOf 6 = .ok (.getfield 21, 3) := by decide +kernel
theorem dX2_leftOf_9 : decode cX2_leftOf 9 = .ok (.iload 4, 2) := by decide +kernel
theorem dX2_leftOf_11 : decode cX2_leftOf 11 = .ok (.iconst 0, 1) := by decide +kernel
theorem dX2_leftOf_12 : decode cX2_leftOf 12 = .ok (.iadd, 1) := by decide +kernel
theorem dX2_leftOf_13 : decode cX2_leftOf 13 = .ok (.iaload, 1) := by decide +kernel
theorem dX2_leftOf_14 : decode cX2_leftOf 14 = .ok (.iload_n 2, 1) := by decide +kernel
theorem dX2_leftOf_15 : decode cX2_leftOf 15 = .ok (.if_icmp .ne 20, 3) := by decide +kernel
theorem dX2_leftOf_18 : decode cX2_leftOf 18 = .ok (.aload_n 0, 1) := by decide +kernel
theorem dX2_leftOf_19 : decode cX2_leftOf 19 = .ok (.getfield 21, 3) := by decide +kernel
theorem dX2_leftOf_22 : decode cX2_leftOf 22 = .ok (.iload 4, 2) := by decide +kernel
theorem dX2_leftOf_24 : decode cX2_leftOf 24 = .ok (.iconst 2, 1) := by decide +kernel
theorem dX2_leftOf_25 : decode cX2_leftOf 25 = .ok (.iadd, 1) := by decide +kernel
theorem dX2_leftOf_26 : decode cX2_leftOf 26 = .ok (.iaload, 1) := by decide +kernel
theorem dX2_leftOf_27 : decode cX2_leftOf 27 = .ok (.iload_n 3, 1) := by decide +kernel
theorem dX2_leftOf_28 : decode cX2_leftOf 28 = .ok (.if_icmp .ne 7, 3) := by decide +kernel
theorem dX2_leftOf_31 : decode cX2_leftOf 31 = .ok (.iconst 1, 1) := by decide +kernel
theorem dX2_leftOf_32 : decode cX2_leftOf 32 = .ok (.goto 4, 3) := by decide +kernel
theorem dX2_leftOf_35 : decode cX2_leftOf 35 = .ok (.iconst 0, 1) := by decide +kernel
theorem dX2_leftOf_36 : decode cX2_leftOf 36 = .ok (.istore 5, 2) := by decide +kernel
theorem dX2_leftOf_38 : decode cX2_leftOf 38 = .ok (.iload 5, 2) := by decide +kernel
theorem dX2_leftOf_40 : decode cX2_leftOf 40 = .ok (.ifCond .eq 15, 3) := by decide +kernel
theorem dX2_leftOf_43 : decode cX2_leftOf 43 = .ok (.aload_n 0, 1) := by decide +kernel
theorem dX2_leftOf_44 : decode cX2_leftOf 44 = .ok (.getfield 21, 3) := by decide +kernel
theorem dX2_leftOf_47 : decode cX2_leftOf 47 = .ok (.iload 4, 2) := by decide +kernel
theorem dX2_leftOf_49 : decode cX2_leftOf 49 = .ok (.iconst 3, 1) := by decide +kernel
theorem dX2_leftOf_50 : decode cX2_leftOf 50 = .ok (.iadd, 1) := by decide +kernel
theorem dX2_leftOf_51 : decode cX2_leftOf 51 = .ok (.iaload, 1) := by decide +kernel
theorem dX2_leftOf_52 : decode cX2_leftOf 52 = .ok (.goto 4, 3) := by decide +kernel
theorem dX2_leftOf_55 : decode cX2_leftOf 55 = .ok (.iconst 0, 1) := by decide +kernel
theorem dX2_leftOf_56 : decode cX2_leftOf 56 = .ok (.ireturn, 1) := by decide +kernel
theorem dX2_leftWithLast_0 : decode cX2_leftWithLast 0 = .ok (.iconst 0, 1) := by decide +kernel
theorem dX2_leftWithLast_1 : decode cX2_leftWithLast 1 = .ok (.istore_n 3, 1) := by decide +kernel
theorem dX2_leftWithLast_2 : decode cX2_leftWithLast 2 = .ok (.iconst 0, 1) := by decide +kernel
theorem dX2_leftWithLast_3 : decode cX2_leftWithLast 3 = .ok (.istore 4, 2) := by decide +kernel
theorem dX2_leftWithLast_5 : decode cX2_leftWithLast 5 = .ok (.iload 4, 2) := by decide +kernel
theorem dX2_leftWithLast_7 : decode cX2_leftWithLast 7 = .ok (.aload_n 0, 1) := by decide +kernel
theorem dX2_leftWithLast_8 : decode cX2_leftWithLast 8 = .ok (.getfield 37, 3) := by decide +kernel
theorem dX2_leftWithLast_11 : decode cX2_leftWithLast 11 = .ok (.if_icmp .ge 20, 3) := by decide +kernel
theorem dX2_leftWithLast_14 : decode cX2_leftWithLast 14 = .ok (.iload_n 3, 1) := by decide +kernel
theorem dX2_leftWithLast_15 : decode cX2_leftWithLast 15 = .ok (.aload_n 0, 1) := by decide +kernel
theorem dX2_leftWithLast_16 : decode cX2_leftWithLast 16 = .ok (.iload 4, 2) := by decide +kernel
theorem dX2_leftWithLast_18 : decode cX2_leftWithLast 18 = .ok (.iload_n 1, 1) := by decide +kernel
theorem dX2_leftWithLast_19 : decode cX2_leftWithLast 19 = .ok (.iload_n 2, 1) := by decide +kernel
theorem dX2_leftWithLast_20 : decode cX2_leftWithLast 20 = .ok (.invokevirtual 54, 3) := by decide +kernel
theorem dX2_leftWithLast_23 : decode cX2_leftWithLast 23 = .ok (.iadd, 1) := by decide +kernel
theorem dX2_leftWithLast_24 : decode cX2_leftWithLast 24 = .ok (.istore_n 3, 1) := by decide +kernel
theorem dX2_leftWithLast_25 : decode cX2_leftWithLast 25 = .ok (.iinc 4 1, 3) := by decide +kernel
theorem dX2_leftWithLast_28 : decode cX2_leftWithLast 28 = .ok (.goto (-23), 3) := by decide +kernel
theorem dX2_leftWithLast_31 : decode cX2_leftWithLast 31 = .ok (.iload_n 3, 1) := by decide +kernel
theorem dX2_leftWithLast_32 : decode cX2_leftWithLast 32 = .ok (.ireturn, 1) := by decide +kernel
theorem dX2_incomeOf_0 : decode cX2_incomeOf 0 = .ok (.aload_n 0, 1) := by decide +kernel
theorem dX2_incomeOf_1 : decode cX2_incomeOf 1 = .ok (.getfield 15, 3) := by decide +kernel
theorem dX2_incomeOf_4 : decode cX2_incomeOf 4 = .ok (.iload_n 1, 1) := by decide +kernel
theorem dX2_incomeOf_5 : decode cX2_incomeOf 5 = .ok (.bipush 40, 2) := by decide +kernel
theorem dX2_incomeOf_7 : decode cX2_incomeOf 7 = .ok (.imul, 1) := by decide +kernel
theorem dX2_incomeOf_8 : decode cX2_incomeOf 8 = .ok (.aload_n 0, 1) := by decide +kernel
theorem dX2_incomeOf_9 : decode cX2_incomeOf 9 = .ok (.getfield 28, 3) := by decide +kernel
theorem dX2_incomeOf_12 : decode cX2_incomeOf 12 = .ok (.iadd, 1) := by decide +kernel
theorem dX2_incomeOf_13 : decode cX2_incomeOf 13 = .ok (.iaload, 1) := by decide +kernel
theorem dX2_incomeOf_14 : decode cX2_incomeOf 14 = .ok (.istore_n 2, 1) := by decide +kernel
theorem dX2_incomeOf_15 : decode cX2_incomeOf 15 = .ok (.iconst 0, 1) := by decide +kernel
theorem dX2_incomeOf_16 : decode cX2_incomeOf 16 = .ok (.istore_n 3, 1) := by decide +kernel
theorem dX2_incomeOf_17 : decode cX2_incomeOf 17 = .ok (.iload_n 3, 1) := by decide +kernel
theorem dX2_incomeOf_18 : decode cX2_incomeOf 18 = .ok (.aload_n 0, 1) := by decide +kernel
theorem dX2_incomeOf_19 : decode cX2_incomeOf 19 = .ok (.getfield 34, 3) := by decide +kernel
theorem dX2_incomeOf_22 : decode cX2_incomeOf 22 = .ok (.if_icmp .ge 51, 3) := by decide +kernel
theorem dX2_incomeOf_25 : decode cX2_incomeOf 25 = .ok (.aload_n 0, 1) := by decide +kernel
theorem dX2_incomeOf_26 : decode cX2_incomeOf 26 = .ok (.iload_n 3, 1) := by decide +kernel
theorem dX2_incomeOf_27 : decode cX2_incomeOf 27 = .ok (.iload_n 1, 1) := by decide +kernel
theorem dX2_incomeOf_28 : decode cX2_incomeOf 28 = .ok (.invokevirtual 58, 3) := by decide +kernel
theorem dX2_incomeOf_31 : decode cX2_incomeOf 31 = .ok (.ifCond .eq 36, 3) := by decide +kernel
theorem dX2_incomeOf_34 : decode cX2_incomeOf 34 = .ok (.iload_n 2, 1) := by decide +kernel
theorem dX2_incomeOf_35 : decode cX2_incomeOf 35 = .ok (.aload_n 0, 1) := by decide +kernel
theorem dX2_incomeOf_36 : decode cX2_incomeOf 36 = .ok (.iload_n 3, 1) := by decide +kernel
theorem dX2_incomeOf_37 : decode cX2_incomeOf 37 = .ok (.invokevirtual 62, 3) := by decide +kernel
theorem dX2_incomeOf_40 : decode cX2_incomeOf 40 = .ok (.ifCond .eq 15, 3) := by decide +kernel
theorem dX2_incomeOf_43 : decode cX2_incomeOf 43 = .ok (.aload_n 0, 1) := by decide +kernel
theorem dX2_incomeOf_44 : decode cX2_incomeOf 44 = .ok (.iload_n 3, 1) := by decide +kernel
theorem dX2_incomeOf_45 : decode cX2_incomeOf 45 = .ok (.aload_n 0, 1) := by decide +kernel
theorem dX2_incomeOf_46 : decode cX2_incomeOf 46 = .ok (.getfield 28, 3) := by decide +kernel
theorem dX2_incomeOf_49 : decode cX2_incomeOf 49 = .ok (.invokevirtual 66, 3) := by decide +kernel
theorem dX2_incomeOf_52 : decode cX2_incomeOf 52 = .ok (.goto 13, 3) := by decide +kernel
theorem dX2_incomeOf_55 : decode cX2_incomeOf 55 = .ok (.aload_n 0, 1) := by decide +kernel
theorem dX2_incomeOf_56 : decode cX2_incomeOf 56 = .ok (.iload_n 3, 1) := by decide +kernel
theorem dX2_incomeOf_57 : decode cX2_incomeOf 57 = .ok (.aload_n 0, 1) := by decide +kernel
theorem dX2_incomeOf_58 : decode cX2_incomeOf 58 = .ok (.getfield 28, 3) := by decide +kernel
theorem dX2_incomeOf_61 : decode cX2_incomeOf 61 = .ok (.invokevirtual 66, 3) := by decide +kernel
theorem dX2_incomeOf_64 : decode cX2_incomeOf 64 = .ok (.ineg, 1) := by decide +kernel
theorem dX2_incomeOf_65 : decode cX2_incomeOf 65 = .ok (.iadd, 1) := by decide +kernel
theorem dX2_incomeOf_66 : decode cX2_incomeOf 66 = .ok (.istore_n 2, 1) := by decide +kernel
theorem dX2_incomeOf_67 : decode cX2_incomeOf 67 = .ok (.iinc 3 1, 3) := by decide +kernel
theorem dX2_incomeOf_70 : decode cX2_incomeOf 70 = .ok (.goto (-53), 3) := by decide +kernel
theorem dX2_incomeOf_73 : decode cX2_incomeOf 73 = .ok (.iload_n 2, 1) := by decide +kernel
theorem dX2_incomeOf_74 : decode cX2_incomeOf 74 = .ok (.ireturn, 1) := by decide +kernel
theorem dX2_settleIncome_0 : decode cX2_settleIncome 0 = .ok (.iload_n 2, 1) := by decide +kernel
theorem dX2_settleIncome_1 : decode cX2_settleIncome 1 = .ok (.ifCond .le 12, 3) := by decide +kernel
theorem dX2_settleIncome_4 : decode cX2_settleIncome 4 = .ok (.aload_n 0, 1) := by decide +kernel
theorem dX2_settleIncome_5 : decode cX2_settleIncome 5 = .ok (.iload_n 1, 1) := by decide +kernel
theorem dX2_settleIncome_6 : decode cX2_settleIncome 6 = .ok (.iload_n 2, 1) := by decide +kernel
theorem dX2_settleIncome_7 : decode cX2_settleIncome 7 = .ok (.invokevirtual 69, 3) := by decide +kernel
theorem dX2_settleIncome_10 : decode cX2_settleIncome 10 = .ok (.goto 45, 3) := by decide +kernel
theorem dX2_settleIncome_13 : decode cX2_settleIncome 13 = .ok (.iload_n 2, 1) := by decide +kernel
theorem dX2_settleIncome_14 : decode cX2_settleIncome 14 = .ok (.ifCond .ge 41, 3) := by decide +kernel
theorem dX2_settleIncome_17 : decode cX2_settleIncome 17 = .ok (.aload_n 0, 1) := by decide +kernel
theorem dX2_settleIncome_18 : decode cX2_settleIncome 18 = .ok (.getfield 31, 3) := by decide +kernel
theorem dX2_settleIncome_21 : decode cX2_settleIncome 21 = .ok (.ifCond .le 34, 3) := by decide +kernel
theorem dX2_settleIncome_24 : decode cX2_settleIncome 24 = .ok (.aload_n 0, 1) := by decide +kernel
theorem dX2_settleIncome_25 : decode cX2_settleIncome 25 = .ok (.getfield 37, 3) := by decide +kernel
theorem dX2_settleIncome_28 : decode cX2_settleIncome 28 = .ok (.bipush 10, 2) := by decide +kernel
theorem dX2_settleIncome_30 : decode cX2_settleIncome 30 = .ok (.if_icmp .ge 25, 3) := by decide +kernel
theorem dX2_settleIncome_33 : decode cX2_settleIncome 33 = .ok (.aload_n 0, 1) := by decide +kernel
theorem dX2_settleIncome_34 : decode cX2_settleIncome 34 = .ok (.iload_n 1, 1) := by decide +kernel
theorem dX2_settleIncome_35 : decode cX2_settleIncome 35 = .ok (.iload_n 2, 1) := by decide +kernel
theorem dX2_settleIncome_36 : decode cX2_settleIncome 36 = .ok (.ineg, 1) := by decide +kernel
theorem dX2_settleIncome_37 : decode cX2_settleIncome 37 = .ok (.aload_n 0, 1) := by decide +kernel
theorem dX2_settleIncome_38 : decode cX2_settleIncome 38 = .ok (.getfield 28, 3) := by decide +kernel
theorem dX2_settleIncome_41 : decode cX2_settleIncome 41 = .ok (.aload_n 0, 1) := by decide +kernel
theorem dX2_settleIncome_42 : decode cX2_settleIncome 42 = .ok (.getfield 31, 3) := by decide +kernel
theorem dX2_settleIncome_45 : decode cX2_settleIncome 45 = .ok (.iadd, 1) := by decide +kernel
theorem dX2_settleIncome_46 : decode cX2_settleIncome 46 = .ok (.bipush 39, 2) := by decide +kernel
theorem dX2_settleIncome_48 : decode cX2_settleIncome 48 = .ok (.invokestatic 73, 3) := by decide +kernel
theorem dX2_settleIncome_51 : decode cX2_settleIncome 51 = .ok (.invokevirtual 78, 3) := by decide +kernel
theorem dX2_settleIncome_54 : decode cX2_settleIncome 54 = .ok (.pop, 1) := by decide +kernel
theorem dX2_settleIncome_55 : decode cX2_settleIncome 55 = .ok (.return_, 1) := by decide +kernel
theorem dX2_useLosses_0 : decode cX2_useLosses 0 = .ok (.iload_n 2, 1) := by decide +kernel
theorem dX2_useLosses_1 : decode cX2_useLosses 1 = .ok (.istore_n 3, 1) := by decide +kernel
theorem dX2_useLosses_2 : decode cX2_useLosses 2 = .ok (.aload_n 0, 1) := by decide +kernel
theorem dX2_useLosses_3 : decode cX2_useLosses 3 = .ok (.getfield 28, 3) := by decide +kernel
theorem dX2_useLosses_6 : decode cX2_useLosses 6 = .ok (.istore 4, 2) := by decide +kernel
theorem dX2_useLosses_8 : decode cX2_useLosses 8 = .ok (.iload 4, 2) := by decide +kernel
theorem dX2_useLosses_10 : decode cX2_useLosses 10 = .ok (.bipush 39, 2) := by decide +kernel
theorem dX2_useLosses_12 : decode cX2_useLosses 12 = .ok (.if_icmp .gt 67, 3) := by decide +kernel
theorem dX2_useLosses_15 : decode cX2_useLosses 15 = .ok (.iload_n 3, 1) := by decide +kernel
theorem dX2_useLosses_16 : decode cX2_useLosses 16 = .ok (.ifCond .le 63, 3) := by decide +kernel
theorem dX2_useLosses_19 : decode cX2_useLosses 19 = .ok (.iconst 0, 1) := by decide +kernel
theorem dX2_useLosses_20 : decode cX2_useLosses 20 = .ok (.istore 5, 2) := by decide +kernel
theorem dX2_useLosses_22 : decode cX2_useLosses 22 = .ok (.iload 5, 2) := by decide +kernel
theorem dX2_useLosses_24 : decode cX2_useLosses 24 = .ok (.aload_n 0, 1) := by decide +kernel
theorem dX2_useLosses_25 : decode cX2_useLosses 25 = .ok (.getfield 37, 3) := by decide +kernel
theorem dX2_useLosses_28 : decode cX2_useLosses 28 = .ok (.if_icmp .ge 45, 3) := by decide +kernel
theorem dX2_useLosses_31 : decode cX2_useLosses 31 = .ok (.iload_n 3, 1) := by decide +kernel
theorem dX2_useLosses_32 : decode cX2_useLosses 32 = .ok (.aload_n 0, 1) := by decide +kernel
theorem dX2_useLosses_33 : decode cX2_useLosses 33 = .ok (.iload 5, 2) := by decide +kernel
theorem dX2_useLosses_35 : decode cX2_useLosses 35 = .ok (.iload_n 1, 1) := by decide +kernel
theorem dX2_useLosses_36 : decode cX2_useLosses 36 = .ok (.iload 4, 2) := by decide +kernel
theorem dX2_useLosses_38 : decode cX2_useLosses 38 = .ok (.invokevirtual 54, 3) := by decide +kernel
theorem dX2_useLosses_41 : decode cX2_useLosses 41 = .ok (.invokestatic 73, 3) := by decide +kernel
theorem dX2_useLosses_44 : decode cX2_useLosses 44 = .ok (.istore 6, 2) := by decide +kernel
theorem dX2_useLosses_46 : decode cX2_useLosses 46 = .ok (.aload_n 0, 1) := by decide +kernel
theorem dX2_useLosses_47 : decode cX2_useLosses 47 = .ok (.getfield 21, 3) := by decide +kernel
theorem dX2_useLosses_50 : decode cX2_useLosses 50 = .ok (.iload 5, 2) := by decide +kernel
theorem dX2_useLosses_52 : decode cX2_useLosses 52 = .ok (.iconst 4, 1) := by decide +kernel
theorem dX2_useLosses_53 : decode cX2_useLosses 53 = .ok (.imul, 1) := by decide +kernel
theorem dX2_useLosses_54 : decode cX2_useLosses 54 = .ok (.iconst 3, 1) := by decide +kernel
theorem dX2_useLosses_55 : decode cX2_useLosses 55 = .ok (.iadd, 1) := by decide +kernel
theorem dX2_useLosses_56 : decode cX2_useLosses 56 = .ok (.dup2, 1) := by decide +kernel
theorem dX2_useLosses_57 : decode cX2_useLosses 57 = .ok (.iaload, 1) := by decide +kernel
theorem dX2_useLosses_58 : decode cX2_useLosses 58 = .ok (.iload 6, 2) := by decide +kernel
theorem dX2_useLosses_60 : decode cX2_useLosses 60 = .ok (.isub, 1) := by decide +kernel
theorem dX2_useLosses_61 : decode cX2_useLosses 61 = .ok (.iastore, 1) := by decide +kernel
theorem dX2_useLosses_62 : decode cX2_useLosses 62 = .ok (.iload_n 3, 1) := by decide +kernel
theorem dX2_useLosses_63 : decode cX2_useLosses 63 = .ok (.iload 6, 2) := by decide +kernel
theorem dX2_useLosses_65 : decode cX2_useLosses 65 = .ok (.isub, 1) := by decide +kernel
theorem dX2_useLosses_66 : decode cX2_useLosses 66 = .ok (.istore_n 3, 1) := by decide +kernel
theorem dX2_useLosses_67 : decode cX2_useLosses 67 = .ok (.iinc 5 1, 3) := by decide +kernel
theorem dX2_useLosses_70 : decode cX2_useLosses 70 = .ok (.goto (-48), 3) := by decide +kernel
theorem dX2_useLosses_73 : decode cX2_useLosses 73 = .ok (.iinc 4 1, 3) := by decide +kernel
theorem dX2_useLosses_76 : decode cX2_useLosses 76 = .ok (.goto (-68), 3) := by decide +kernel
theorem dX2_useLosses_79 : decode cX2_useLosses 79 = .ok (.return_, 1) := by decide +kernel
theorem dX3_init_0 : decode cX3_init 0 = .ok (.aload_n 0, 1) := by decide +kernel
theorem dX3_init_1 : decode cX3_init 1 = .ok (.invokespecial 3, 3) := by decide +kernel
theorem dX3_init_4 : decode cX3_init 4 = .ok (.aload_n 0, 1) := by decide +kernel
theorem dX3_init_5 : decode cX3_init 5 = .ok (.bipush 7, 2) := by decide +kernel
theorem dX3_init_7 : decode cX3_init 7 = .ok (.newarray .int, 2) := by decide +kernel
theorem dX3_init_9 : decode cX3_init 9 = .ok (.putfield 11, 3) := by decide +kernel
theorem dX3_init_12 : decode cX3_init 12 = .ok (.aload_n 0, 1) := by decide +kernel
theorem dX3_init_13 : decode cX3_init 13 = .ok (.bipush 40, 2) := by decide +kernel
theorem dX3_init_15 : decode cX3_init 15 = .ok (.newarray .int, 2) := by decide +kernel
theorem dX3_init_17 : decode cX3_init 17 = .ok (.putfield 15, 3) := by decide +kernel
theorem dX3_init_20 : decode cX3_init 20 = .ok (.aload_n 0, 1) := by decide +kernel
theorem dX3_init_21 : decode cX3_init 21 = .ok (.bipush 40, 2) := by decide +kernel
theorem dX3_init_23 : decode cX3_init 23 = .ok (.newarray .int, 2) := by decide +kernel
theorem dX3_init_25 : decode cX3_init 25 = .ok (.putfield 18, 3) := by decide +kernel
theorem dX3_init_28 : decode cX3_init 28 = .ok (.return_, 1) := by decide +kernel
theorem dX3_fill_0 : decode cX3_fill 0 = .ok (.aload_n 1, 1) := by decide +kernel
theorem dX3_fill_1 : decode cX3_fill 1 = .ok (.getfield 21, 3) := by decide +kernel
theorem dX3_fill_4 : decode cX3_fill 4 = .ok (.iconst 0, 1) := by decide +kernel
theorem dX3_fill_5 : decode cX3_fill 5 = .ok (.aload_n 0, 1) := by decide +kernel
theorem dX3_fill_6 : decode cX3_fill 6 = .ok (.getfield 15, 3) := by decide +kernel
theorem dX3_fill_9 : decode cX3_fill 9 = .ok (.iconst 0, 1) := by decide +kernel
theorem dX3_fill_10 : decode cX3_fill 10 = .ok (.bipush 40, 2) := by decide +kernel
theorem dX3_fill_12 : decode cX3_fill 12 = .ok (.invokestatic 24, 3) := by decide +kernel
theorem dX3_fill_15 : decode cX3_fill 15 = .ok (.aload_n 1, 1) := by decide +kernel
theorem dX3_fill_16 : decode cX3_fill 16 = .ok (.getfield 30, 3) := by decide +kernel
theorem dX3_fill_19 : decode cX3_fill 19 = .ok (.iconst 0, 1) := by decide +kernel
theorem dX3_fill_20 : decode cX3_fill 20 = .ok (.aload_n 0, 1) := by decide +kernel
theorem dX3_fill_21 : decode cX3_fill 21 = .ok (.getfield 18, 3) := by decide +kernel
theorem dX3_fill_24 : decode cX3_fill 24 = .ok (.iconst 0, 1) := by decide +kernel
theorem dX3_fill_25 : decode cX3_fill 25 = .ok (.bipush 40, 2) := by decide +kernel
theorem dX3_fill_27 : decode cX3_fill 27 = .ok (.invokestatic 24, 3) := by decide +kernel
theorem dX3_fill_30 : decode cX3_fill 30 = .ok (.aload_n 0, 1) := by decide +kernel
theorem dX3_fill_31 : decode cX3_fill 31 = .ok (.getfield 11, 3) := by decide +kernel
theorem dX3_fill_34 : decode cX3_fill 34 = .ok (.iconst 0, 1) := by decide +kernel
theorem dX3_fill_35 : decode cX3_fill 35 = .ok (.aload_n 1, 1) := by decide +kernel
theorem dX3_fill_36 : decode cX3_fill 36 = .ok (.invokevirtual 31, 3) := by decide +kernel
theorem dX3_fill_39 : decode cX3_fill 39 = .ok (.iastore, 1) := by decide +kernel
theorem dX3_fill_40 : decode cX3_fill 40 = .ok (.aload_n 0, 1) := by decide +kernel
theorem dX3_fill_41 : decode cX3_fill 41 = .ok (.getfield 11, 3) := by decide +kernel
theorem dX3_fill_44 : decode cX3_fill 44 = .ok (.iconst 1, 1) := by decide +kernel
theorem dX3_fill_45 : decode cX3_fill 45 = .ok (.aload_n 1, 1) := by decide +kernel
theorem dX3_fill_46 : decode cX3_fill 46 = .ok (.invokevirtual 35, 3) := by decide +kernel
theorem dX3_fill_49 : decode cX3_fill 49 = .ok (.iastore, 1) := by decide +kernel
theorem dX3_fill_50 : decode cX3_fill 50 = .ok (.aload_n 0, 1) := by decide +kernel
theorem dX3_fill_51 : decode cX3_fill 51 = .ok (.getfield 11, 3) := by decide +kernel
theorem dX3_fill_54 : decode cX3_fill 54 = .ok (.iconst 2, 1) := by decide +kernel
theorem dX3_fill_55 : decode cX3_fill 55 = .ok (.aload_n 1, 1) := by decide +kernel
theorem dX3_fill_56 : decode cX3_fill 56 = .ok (.invokevirtual 38, 3) := by decide +kernel
theorem dX3_fill_59 : decode cX3_fill 59 = .ok (.iastore, 1) := by decide +kernel
theorem dX3_fill_60 : decode cX3_fill 60 = .ok (.aload_n 2, 1) := by decide +kernel
theorem dX3_fill_61 : decode cX3_fill 61 = .ok (.ifnonnull 7, 3) := by decide +kernel
theorem dX3_fill_64 : decode cX3_fill 64 = .ok (.iconst 0, 1) := by decide +kernel
theorem dX3_fill_65 : decode cX3_fill 65 = .ok (.goto 7, 3) := by decide +kernel
theorem dX3_fill_68 : decode cX3_fill 68 = .ok (.aload_n 2, 1) := by decide +kernel
theorem dX3_fill_69 : decode cX3_fill 69 = .ok (.invokevirtual 41, 3) := by decide +kernel
theorem dX3_fill_72 : decode cX3_fill 72 = .ok (.istore_n 3, 1) := by decide +kernel
theorem dX3_fill_73 : decode cX3_fill 73 = .ok (.aload_n 2, 1) := by decide +kernel
theorem dX3_fill_74 : decode cX3_fill 74 = .ok (.ifnonnull 7, 3) := by decide +kernel
theorem dX3_fill_77 : decode cX3_fill 77 = .ok (.iconst 0, 1) := by decide +kernel
theorem dX3_fill_78 : decode cX3_fill 78 = .ok (.goto 20, 3) := by decide +kernel
theorem dX3_fill_81 : decode cX3_fill 81 = .ok (.aload_n 1, 1) := by decide +kernel
theorem dX3_fill_82 : decode cX3_fill 82 = .ok (.aload_n 2, 1) := by decide +kernel
theorem dX3_fill_83 : decode cX3_fill 83 = .ok (.getfield 18, 3) := by decide +kernel
theorem dX3_fill_86 : decode cX3_fill 86 = .ok (.invokevirtual 44, 3) := by decide +kernel
theorem dX3_fill_89 : decode cX3_fill 89 = .ok (.aload_n 1, 1) := by decide +kernel
theorem dX3_fill_90 : decode cX3_fill 90 = .ok (.aload_n 2, 1) := by decide +kernel
theorem dX3_fill_91 : decode cX3_fill 91 = .ok (.getfield 15, 3) := by decide +kernel
theorem dX3_fill_94 : decode cX3_fill 94 = .ok (.invokevirtual 44, 3) := by decide +kernel
theorem dX3_fill_97 : decode cX3_fill 97 = .ok (.isub, 1) := by decide +kernel
theorem dX3_fill_98 : decode cX3_fill 98 = .ok (.istore 4, 2) := by decide +kernel
theorem dX3_fill_100 : decode cX3_fill 100 = .ok (.aload_n 0, 1) := by decide +kernel
theorem dX3_fill_101 : decode cX3_fill 101 = .ok (.getfield 11, 3) := by decide +kernel
theorem dX3_fill_104 : decode cX3_fill 104 = .ok (.iconst 3, 1) := by decide +kernel
theorem dX3_fill_105 : decode cX3_fill 105 = .ok (.aload_n 0, 1) := by decide +kernel
theorem dX3_fill_106 : decode cX3_fill 106 = .ok (.invokevirtual 41, 3) := by decide +kernel
theorem dX3_fill_109 : decode cX3_fill 109 = .ok (.iload_n 3, 1) := by decide +kernel
theorem dX3_fill_110 : decode cX3_fill 110 = .ok (.isub, 1) := by decide +kernel
theorem dX3_fill_111 : decode cX3_fill 111 = .ok (.iastore, 1) := by decide +kernel
theorem dX3_fill_112 : decode cX3_fill 112 = .ok (.aload_n 0, 1) := by decide +kernel
theorem dX3_fill_113 : decode cX3_fill 113 = .ok (.getfield 11, 3) := by decide +kernel
theorem dX3_fill_116 : decode cX3_fill 116 = .ok (.iconst 4, 1) := by decide +kernel
theorem dX3_fill_117 : decode cX3_fill 117 = .ok (.iload 4, 2) := by decide +kernel
theorem dX3_fill_119 : decode cX3_fill 119 = .ok (.iload_n 3, 1) := by decide +kernel
theorem dX3_fill_120 : decode cX3_fill 120 = .ok (.isub, 1) := by decide +kernel
theorem dX3_fill_121 : decode cX3_fill 121 = .ok (.iastore, 1) := by decide +kernel
theorem dX3_fill_122 : decode cX3_fill 122 = .ok (.aload_n 0, 1) := by decide +kernel
theorem dX3_fill_123 : decode cX3_fill 123 = .ok (.getfield 11, 3) := by decide +kernel
theorem dX3_fill_126 : decode cX3_fill 126 = .ok (.iconst 5, 1) := by decide +kernel
theorem dX3_fill_127 : decode cX3_fill 127 = .ok (.aload_n 0, 1) := by decide +kernel
theorem dX3_fill_128 : decode cX3_fill 128 = .ok (.getfield 11, 3) := by decide +kernel
theorem dX3_fill_131 : decode cX3_fill 131 = .ok (.iconst 3, 1) := by decide +kernel
theorem dX3_fill_132 : decode cX3_fill 132 = .ok (.iaload, 1) := by decide +kernel
theorem dX3_fill_133 : decode cX3_fill 133 = .ok (.aload_n 0, 1) := by decide +kernel
theorem dX3_fill_134 : decode cX3_fill 134 = .ok (.getfield 11, 3) := by decide +kernel
theorem dX3_fill_137 : decode cX3_fill 137 = .ok (.iconst 4, 1) := by decide +kernel
theorem dX3_fill_138 : decode cX3_fill 138 = .ok (.iaload, 1) := by decide +kernel
theorem dX3_fill_139 : decode cX3_fill 139 = .ok (.isub, 1) := by decide +kernel
theorem dX3_fill_140 : decode cX3_fill 140 = .ok (.iastore, 1) := by decide +kernel
theorem dX3_fill_141 : decode cX3_fill 141 = .ok (.return_, 1) := by decide +kernel
theorem dX3_net_0 : decode cX3_net 0 = .ok (.aload_n 0, 1) := by decide +kernel
theorem dX3_net_1 : decode cX3_net 1 = .ok (.getfield 11, 3) := by decide +kernel
theorem dX3_net_4 : decode cX3_net 4 = .ok (.iconst 1, 1) := by decide +kernel
theorem dX3_net_5 : decode cX3_net 5 = .ok (.iaload, 1) := by decide +kernel
theorem dX3_net_6 : decode cX3_net 6 = .ok (.aload_n 0, 1) := by decide +kernel
theorem dX3_net_7 : decode cX3_net 7 = .ok (.getfield 11, 3) := by decide +kernel
theorem dX3_net_10 : decode cX3_net 10 = .ok (.iconst 0, 1) := by decide +kernel
theorem dX3_net_11 : decode cX3_net 11 = .ok (.iaload, 1) := by decide +kernel
theorem dX3_net_12 : decode cX3_net 12 = .ok (.isub, 1) := by decide +kernel
theorem dX3_net_13 : decode cX3_net 13 = .ok (.ireturn, 1) := by decide +kernel
theorem dX4_init_0 : decode cX4_init 0 = .ok (.aload_n 0, 1) := by decide +kernel
theorem dX4_init_1 : decode cX4_init 1 = .ok (.invokespecial 3, 3) := by decide +kernel
theorem dX4_init_4 : decode cX4_init 4 = .ok (.aload_n 0, 1) := by decide +kernel
theorem dX4_init_5 : decode cX4_init 5 = .ok (.bipush 40, 2) := by decide +kernel
theorem dX4_init_7 : decode cX4_init 7 = .ok (.newarray .int, 2) := by decide +kernel
theorem dX4_init_9 : decode cX4_init 9 = .ok (.putfield 9, 3) := by decide +kernel
theorem dX4_init_12 : decode cX4_init 12 = .ok (.aload_n 0, 1) := by decide +kernel
theorem dX4_init_13 : decode cX4_init 13 = .ok (.bipush 40, 2) := by decide +kernel
theorem dX4_init_15 : decode cX4_init 15 = .ok (.newarray .int, 2) := by decide +kernel
theorem dX4_init_17 : decode cX4_init 17 = .ok (.putfield 15, 3) := by decide +kernel
theorem dX4_init_20 : decode cX4_init 20 = .ok (.aload_n 0, 1) := by decide +kernel
theorem dX4_init_21 : decode cX4_init 21 = .ok (.bipush 40, 2) := by decide +kernel
theorem dX4_init_23 : decode cX4_init 23 = .ok (.newarray .int, 2) := by decide +kernel
theorem dX4_init_25 : decode cX4_init 25 = .ok (.putfield 18, 3) := by decide +kernel
theorem dX4_init_28 : decode cX4_init 28 = .ok (.aload_n 0, 1) := by decide +kernel
theorem dX4_init_29 : decode cX4_init 29 = .ok (.bipush 40, 2) := by decide +kernel
theorem dX4_init_31 : decode cX4_init 31 = .ok (.newarray .int, 2) := by decide +kernel
theorem dX4_init_33 : decode cX4_init 33 = .ok (.putfield 21, 3) := by decide +kernel
theorem dX4_init_36 : decode cX4_init 36 = .ok (.aload_n 0, 1) := by decide +kernel
theorem dX4_init_37 : decode cX4_init 37 = .ok (.bipush 40, 2) := by decide +kernel
theorem dX4_init_39 : decode cX4_init 39 = .ok (.newarray .int, 2) := by decide +kernel
theorem dX4_init_41 : decode cX4_init 41 = .ok (.putfield 24, 3) := by decide +kernel
theorem dX4_init_44 : decode cX4_init 44 = .ok (.aload_n 0, 1) := by decide +kernel
theorem dX4_init_45 : decode cX4_init 45 = .ok (.bipush 40, 2) := by decide +kernel
theorem dX4_init_47 : decode cX4_init 47 = .ok (.newarray .int, 2) := by decide +kernel
theorem dX4_init_49 : decode cX4_init 49 = .ok (.putfield 27, 3) := by decide +kernel
theorem dX4_init_52 : decode cX4_init 52 = .ok (.aload_n 0, 1) := by decide +kernel
theorem dX4_init_53 : decode cX4_init 53 = .ok (.bipush 40, 2) := by decide +kernel
theorem dX4_init_55 : decode cX4_init 55 = .ok (.newarray .int, 2) := by decide +kernel
theorem dX4_init_57 : decode cX4_init 57 = .ok (.putfield 30, 3) := by decide +kernel
theorem dX4_init_60 : decode cX4_init 60 = .ok (.aload_n 0, 1) := by decide +kernel
theorem dX4_init_61 : decode cX4_init 61 = .ok (.bipush 60, 2) := by decide +kernel
theorem dX4_init_63 : decode cX4_init 63 = .ok (.newarray .int, 2) := by decide +kernel
theorem dX4_init_65 : decode cX4_init 65 = .ok (.putfield 33, 3) := by decide +kernel
theorem dX4_init_68 : decode cX4_init 68 = .ok (.return_, 1) := by decide +kernel
theorem dX4_workOut_0 : decode cX4_workOut 0 = .ok (.iconst 0, 1) := by decide +kernel
theorem dX4_workOut_1 : decode cX4_workOut 1 = .ok (.istore_n 3, 1) := by decide +kernel
theorem dX4_workOut_2 : decode cX4_workOut 2 = .ok (.iload_n 3, 1) := by decide +kernel
theorem dX4_workOut_3 : decode cX4_workOut 3 = .ok (.bipush 40, 2) := by decide +kernel
theorem dX4_workOut_5 : decode cX4_workOut 5 = .ok (.if_icmp .ge 47, 3) := by decide +kernel
theorem dX4_workOut_8 : decode cX4_workOut 8 = .ok (.aload_n 0, 1) := by decide +kernel
theorem dX4_workOut_9 : decode cX4_workOut 9 = .ok (.getfield 9, 3) := by decide +kernel
theorem dX4_workOut_12 : decode cX4_workOut 12 = .ok (.iload_n 3, 1) := by decide +kernel
theorem dX4_workOut_13 : decode cX4_workOut 13 = .ok (.iconst 0, 1) := by decide +kernel
theorem dX4_workOut_14 : decode cX4_workOut 14 = .ok (.iastore, 1) := by decide +kernel
theorem dX4_workOut_15 : decode cX4_workOut 15 = .ok (.aload_n 0, 1) := by decide +kernel
theorem dX4_workOut_16 : decode cX4_workOut 16 = .ok (.getfield 18, 3) := by decide +kernel
theorem dX4_workOut_19 : decode cX4_workOut 19 = .ok (.iload_n 3, 1) := by decide +kernel
theorem dX4_workOut_20 : decode cX4_workOut 20 = .ok (.iconst 0, 1) := by decide +kernel
theorem dX4_workOut_21 : decode cX4_workOut 21 = .ok (.iastore, 1) := by decide +kernel
theorem dX4_workOut_22 : decode cX4_workOut 22 = .ok (.aload_n 0, 1) := by decide +kernel
theorem dX4_workOut_23 : decode cX4_workOut 23 = .ok (.getfield 24, 3) := by decide +kernel
theorem dX4_workOut_26 : decode cX4_workOut 26 = .ok (.iload_n 3, 1) := by decide +kernel
theorem dX4_workOut_27 : decode cX4_workOut 27 = .ok (.iconst 0, 1) := by decide +kernel
theorem dX4_workOut_28 : decode cX4_workOut 28 = .ok (.iastore, 1) := by decide +kernel
theorem dX4_workOut_29 : decode cX4_workOut 29 = .ok (.aload_n 0, 1) := by decide +kernel
theorem dX4_workOut_30 : decode cX4_workOut 30 = .ok (.getfield 30, 3) := by decide +kernel
theorem dX4_workOut_33 : decode cX4_workOut 33 = .ok (.iload_n 3, 1) := by decide +kernel
theorem dX4_workOut_34 : decode cX4_workOut 34 = .ok (.aload_n 1, 1) := by decide +kernel
theorem dX4_workOut_35 : decode cX4_workOut 35 = .ok (.getfield 36, 3) := by decide +kernel
theorem dX4_workOut_38 : decode cX4_workOut 38 = .ok (.iload_n 2, 1) := by decide +kernel
theorem dX4_workOut_39 : decode cX4_workOut 39 = .ok (.bipush 40, 2) := by decide +kernel
theorem dX4_workOut_41 : decode cX4_workOut 41 = .ok (.imul, 1) := by decide +kernel
theorem dX4_workOut_42 : decode cX4_workOut 42 = .ok (.iload_n 3, 1) := by decide +kernel
theorem dX4_workOut_43 : decode cX4_workOut 43 = .ok (.iadd, 1) := by decide +kernel
theorem dX4_workOut_44 : decode cX4_workOut 44 = .ok (.iaload, 1) := by decide +kernel
theorem dX4_workOut_45 : decode cX4_workOut 45 = .ok (.iastore, 1) := by decide +kernel
theorem dX4_workOut_46 : decode cX4_workOut 46 = .ok (.iinc 3 1, 3) := by decide +kernel
theorem dX4_workOut_49 : decode cX4_workOut 49 = .ok (.goto (-47), 3) := by decide +kernel
theorem dX4_workOut_52 : decode cX4_workOut 52 = .ok (.iconst 0, 1) := by decide +kernel
theorem dX4_workOut_53 : decode cX4_workOut 53 = .ok (.istore_n 3, 1) := by decide +kernel
theorem dX4_workOut_54 : decode cX4_workOut 54 = .ok (.iload_n 3, 1) := by decide +kernel
theorem dX4_workOut_55 : decode cX4_workOut 55 = .ok (.aload_n 1, 1) := by decide +kernel
theorem dX4_workOut_56 : decode cX4_workOut 56 = .ok (.getfield 39, 3) := by decide +kernel
theorem dX4_workOut_59 : decode cX4_workOut 59 = .ok (.if_icmp .ge 43, 3) := by decide +kernel
theorem dX4_workOut_62 : decode cX4_workOut 62 = .ok (.aload_n 1, 1) := by decide +kernel
theorem dX4_workOut_63 : decode cX4_workOut 63 = .ok (.iload_n 3, 1) := by decide +kernel
theorem dX4_workOut_64 : decode cX4_workOut 64 = .ok (.iload_n 2, 1) := by decide +kernel
theorem dX4_workOut_65 : decode cX4_workOut 65 = .ok (.invokevirtual 43, 3) := by decide +kernel
theorem dX4_workOut_68 : decode cX4_workOut 68 = .ok (.ifCond .eq 28, 3) := by decide +kernel
theorem dX4_workOut_71 : decode cX4_workOut 71 = .ok (.aload_n 0, 1) := by decide +kernel
theorem dX4_workOut_72 : decode cX4_workOut 72 = .ok (.aload_n 1, 1) := by decide +kernel
theorem dX4_workOut_73 : decode cX4_workOut 73 = .ok (.iload_n 3, 1) := by decide +kernel
theorem dX4_workOut_74 : decode cX4_workOut 74 = .ok (.aload_n 1, 1) := by decide +kernel
theorem dX4_workOut_75 : decode cX4_workOut 75 = .ok (.iload_n 3, 1) := by decide +kernel
theorem dX4_workOut_76 : decode cX4_workOut 76 = .ok (.invokevirtual 47, 3) := by decide +kernel
theorem dX4_workOut_79 : decode cX4_workOut 79 = .ok (.ifCond .eq 10, 3) := by decide +kernel
theorem dX4_workOut_82 : decode cX4_workOut 82 = .ok (.aload_n 0, 1) := by decide +kernel
theorem dX4_workOut_83 : decode cX4_workOut 83 = .ok (.getfield 9, 3) := by decide +kernel
theorem dX4_workOut_86 : decode cX4_workOut 86 = .ok (.goto 7, 3) := by decide +kernel
theorem dX4_workOut_89 : decode cX4_workOut 89 = .ok (.aload_n 0, 1) := by decide +kernel
theorem dX4_workOut_90 : decode cX4_workOut 90 = .ok (.getfield 18, 3) := by decide +kernel
theorem dX4_workOut_93 : decode cX4_workOut 93 = .ok (.invokevirtual 51, 3) := by decide +kernel
theorem dX4_workOut_96 : decode cX4_workOut 96 = .ok (.iinc 3 1, 3) := by decide +kernel
theorem dX4_workOut_99 : decode cX4_workOut 99 = .ok (.goto (-45), 3) := by decide +kernel
theorem dX4_workOut_102 : decode cX4_workOut 102 = .ok (.aload_n 0, 1) := by decide +kernel
theorem dX4_workOut_103 : decode cX4_workOut 103 = .ok (.aload_n 1, 1) := by decide +kernel
theorem dX4_workOut_104 : decode cX4_workOut 104 = .ok (.iload_n 2, 1) := by decide +kernel
theorem dX4_workOut_105 : decode cX4_workOut 105 = .ok (.iconst (-1), 1) := by decide +kernel
theorem dX4_workOut_106 : decode cX4_workOut 106 = .ok (.iconst 0, 1) := by decide +kernel
theorem dX4_workOut_107 : decode cX4_workOut 107 = .ok (.invokevirtual 55, 3) := by decide +kernel
theorem dX4_workOut_110 : decode cX4_workOut 110 = .ok (.return_, 1) := by decide +kernel
theorem dX4_addParts_0 : decode cX4_addParts 0 = .ok (.aload_n 1, 1) := by decide +kernel
theorem dX4_addParts_1 : decode cX4_addParts 1 = .ok (.iload_n 2, 1) := by decide +kernel
theorem dX4_addParts_2 : decode cX4_addParts 2 = .ok (.invokevirtual 59, 3) := by decide +kernel
theorem dX4_addParts_5 : decode cX4_addParts 5 = .ok (.istore 4, 2) := by decide +kernel
theorem dX4_addParts_7 : decode cX4_addParts 7 = .ok (.aload_n 1, 1) := by decide +kernel
theorem dX4_addParts_8 : decode cX4_addParts 8 = .ok (.getfield 63, 3) := by decide +kernel
theorem dX4_addParts_11 : decode cX4_addParts 11 = .ok (.iconst 1, 1) := by decide +kernel
theorem dX4_addParts_12 : decode cX4_addParts 12 = .ok (.iadd, 1) := by decide +kernel
theorem dX4_addParts_13 : decode cX4_addParts 13 = .ok (.istore 5, 2) := by decide +kernel
theorem dX4_addParts_15 : decode cX4_addParts 15 = .ok (.iload 5, 2) := by decide +kernel
theorem dX4_addParts_17 : decode cX4_addParts 17 = .ok (.iload 4, 2) := by decide +kernel
theorem dX4_addParts_19 : decode cX4_addParts 19 = .ok (.if_icmp .gt 30, 3) := by decide +kernel
theorem dX4_addParts_22 : decode cX4_addParts 22 = .ok (.iload 5, 2) := by decide +kernel
theorem dX4_addParts_24 : decode cX4_addParts 24 = .ok (.bipush 40, 2) := by decide +kernel
theorem dX4_addParts_26 : decode cX4_addParts 26 = .ok (.if_icmp .ge 23, 3) := by decide +kernel
theorem dX4_addParts_29 : decode cX4_addParts 29 = .ok (.aload_n 3, 1) := by decide +kernel
theorem dX4_addParts_30 : decode cX4_addParts 30 = .ok (.iload 5, 2) := by decide +kernel
theorem dX4_addParts_32 : decode cX4_addParts 32 = .ok (.dup2, 1) := by decide +kernel
theorem dX4_addParts_33 : decode cX4_addParts 33 = .ok (.iaload, 1) := by decide +kernel
theorem dX4_addParts_34 : decode cX4_addParts 34 = .ok (.aload_n 1, 1) := by decide +kernel
theorem dX4_addParts_35 : decode cX4_addParts 35 = .ok (.iload_n 2, 1) := by decide +kernel
theorem dX4_addParts_36 : decode cX4_addParts 36 = .ok (.iload 5, 2) := by decide +kernel
theorem dX4_addParts_38 : decode cX4_addParts 38 = .ok (.invokevirtual 66, 3) := by decide +kernel
theorem dX4_addParts_41 : decode cX4_addParts 41 = .ok (.iadd, 1) := by decide +kernel
theorem dX4_addParts_42 : decode cX4_addParts 42 = .ok (.iastore, 1) := by decide +kernel
theorem dX4_addParts_43 : decode cX4_addParts 43 = .ok (.iinc 5 1, 3) := by decide +kernel
theorem dX4_addParts_46 : decode cX4_addParts 46 = .ok (.goto (-31), 3) := by decide +kernel
theorem dX4_addParts_49 : decode cX4_addParts 49 = .ok (.return_, 1) := by decide +kernel
theorem dX4_spread_0 : decode cX4_spread 0 = .ok (.aload_n 0, 1) := by decide +kernel
theorem dX4_spread_1 : decode cX4_spread 1 = .ok (.iconst 0, 1) := by decide +kernel
theorem dX4_spread_2 : decode cX4_spread 2 = .ok (.putfield 70, 3) := by decide +kernel
theorem dX4_spread_5 : decode cX4_spread 5 = .ok (.iconst 0, 1) := by decide +kernel
theorem dX4_spread_6 : decode cX4_spread 6 = .ok (.istore 5, 2) := by decide +kernel
theorem dX4_spread_8 : decode cX4_spread 8 = .ok (.iload 5, 2) := by decide +kernel
theorem dX4_spread_10 : decode cX4_spread 10 = .ok (.aload_n 0, 1) := by decide +kernel
theorem dX4_spread_11 : decode cX4_spread 11 = .ok (.getfield 33, 3) := by decide +kernel
theorem dX4_spread_14 : decode cX4_spread 14 = .ok (.arraylength, 1) := by decide +kernel
theorem dX4_spread_15 : decode cX4_spread 15 = .ok (.if_icmp .ge 71, 3) := by decide +kernel
theorem dX4_spread_18 : decode cX4_spread 18 = .ok (.iload 5, 2) := by decide +kernel
theorem dX4_spread_20 : decode cX4_spread 20 = .ok (.aload_n 1, 1) := by decide +kernel
theorem dX4_spread_21 : decode cX4_spread 21 = .ok (.getfield 63, 3) := by decide +kernel
theorem dX4_spread_24 : decode cX4_spread 24 = .ok (.if_icmp .le 14, 3) := by decide +kernel
theorem dX4_spread_27 : decode cX4_spread 27 = .ok (.iload 5, 2) := by decide +kernel
theorem dX4_spread_29 : decode cX4_spread 29 = .ok (.bipush 40, 2) := by decide +kernel
theorem dX4_spread_31 : decode cX4_spread 31 = .ok (.if_icmp .ge 7, 3) := by decide +kernel
theorem dX4_spread_34 : decode cX4_spread 34 = .ok (.iconst 1, 1) := by decide +kernel
theorem dX4_spread_35 : decode cX4_spread 35 = .ok (.goto 4, 3) := by decide +kernel
theorem dX4_spread_38 : decode cX4_spread 38 = .ok (.iconst 0, 1) := by decide +kernel
theorem dX4_spread_39 : decode cX4_spread 39 = .ok (.istore 6, 2) := by decide +kernel
theorem dX4_spread_41 : decode cX4_spread 41 = .ok (.aload_n 0, 1) := by decide +kernel
theorem dX4_spread_42 : decode cX4_spread 42 = .ok (.getfield 33, 3) := by decide +kernel
theorem dX4_spread_45 : decode cX4_spread 45 = .ok (.iload 5, 2) := by decide +kernel
theorem dX4_spread_47 : decode cX4_spread 47 = .ok (.iload 6, 2) := by decide +kernel
theorem dX4_spread_49 : decode cX4_spread 49 = .ok (.ifCond .eq 13, 3) := by decide +kernel
theorem dX4_spread_52 : decode cX4_spread 52 = .ok (.aload_n 1, 1) := by decide +kernel
theorem dX4_spread_53 : decode cX4_spread 53 = .ok (.iload_n 2, 1) := by decide +kernel
theorem dX4_spread_54 : decode cX4_spread 54 = .ok (.iload 5, 2) := by decide +kernel
theorem dX4_spread_56 : decode cX4_spread 56 = .ok (.invokevirtual 73, 3) := by decide +kernel
theorem dX4_spread_59 : decode cX4_spread 59 = .ok (.goto 4, 3) := by decide +kernel
theorem dX4_spread_62 : decode cX4_spread 62 = .ok (.iconst 0, 1) := by decide +kernel
theorem dX4_spread_63 : decode cX4_spread 63 = .ok (.iastore, 1) := by decide +kernel
theorem dX4_spread_64 : decode cX4_spread 64 = .ok (.aload_n 0, 1) := by decide +kernel
theorem dX4_spread_65 : decode cX4_spread 65 = .ok (.dup, 1) := by decide +kernel
theorem dX4_spread_66 : decode cX4_spread 66 = .ok (.getfield 70, 3) := by decide +kernel
theorem dX4_spread_69 : decode cX4_spread 69 = .ok (.aload_n 0, 1) := by decide +kernel
theorem dX4_spread_70 : decode cX4_spread 70 = .ok (.getfield 33, 3) := by decide +kernel
theorem dX4_spread_73 : decode cX4_spread 73 = .ok (.iload 5, 2) := by decide +kernel
theorem dX4_spread_75 : decode cX4_spread 75 = .ok (.iaload, 1) := by decide +kernel
theorem dX4_spread_76 : decode cX4_spread 76 = .ok (.iadd, 1) := by decide +kernel
theorem dX4_spread_77 : decode cX4_spread 77 = .ok (.putfield 70, 3) := by decide +kernel
theorem dX4_spread_80 : decode cX4_spread 80 = .ok (.iinc 5 1, 3) := by decide +kernel
theorem dX4_spread_83 : decode cX4_spread 83 = .ok (.goto (-75), 3) := by decide +kernel
theorem dX4_spread_86 : decode cX4_spread 86 = .ok (.aload_n 0, 1) := by decide +kernel
theorem dX4_spread_87 : decode cX4_spread 87 = .ok (.aload_n 0, 1) := by decide +kernel
theorem dX4_spread_88 : decode cX4_spread 88 = .ok (.getfield 70, 3) := by decide +kernel
theorem dX4_spread_91 : decode cX4_spread 91 = .ok (.putfield 76, 3) := by decide +kernel
theorem dX4_spread_94 : decode cX4_spread 94 = .ok (.aload_n 1, 1) := by decide +kernel
theorem dX4_spread_95 : decode cX4_spread 95 = .ok (.getfield 63, 3) := by decide +kernel
theorem dX4_spread_98 : decode cX4_spread 98 = .ok (.iconst 1, 1) := by decide +kernel
theorem dX4_spread_99 : decode cX4_spread 99 = .ok (.iadd, 1) := by decide +kernel
theorem dX4_spread_100 : decode cX4_spread 100 = .ok (.istore 5, 2) := by decide +kernel
theorem dX4_spread_102 : decode cX4_spread 102 = .ok (.iload 5, 2) := by decide +kernel
theorem dX4_spread_104 : decode cX4_spread 104 = .ok (.bipush 40, 2) := by decide +kernel
theorem dX4_spread_106 : decode cX4_spread 106 = .ok (.if_icmp .ge 86, 3) := by decide +kernel
theorem dX4_spread_109 : decode cX4_spread 109 = .ok (.aload_n 0, 1) := by decide +kernel
theorem dX4_spread_110 : decode cX4_spread 110 = .ok (.getfield 15, 3) := by decide +kernel
theorem dX4_spread_113 : decode cX4_spread 113 = .ok (.iload 5, 2) := by decide +kernel
theorem dX4_spread_115 : decode cX4_spread 115 = .ok (.aload_n 0, 1) := by decide +kernel
theorem dX4_spread_116 : decode cX4_spread 116 = .ok (.getfield 9, 3) := by decide +kernel
theorem dX4_spread_119 : decode cX4_spread 119 = .ok (.iload 5, 2) := by decide +kernel
theorem dX4_spread_121 : decode cX4_spread 121 = .ok (.iaload, 1) := by decide +kernel
theorem dX4_spread_122 : decode cX4_spread 122 = .ok (.aload_n 1, 1) := by decide +kernel
theorem dX4_spread_123 : decode cX4_spread 123 = .ok (.getfield 79, 3) := by decide +kernel
theorem dX4_spread_126 : decode cX4_spread 126 = .ok (.iload_n 2, 1) := by decide +kernel
theorem dX4_spread_127 : decode cX4_spread 127 = .ok (.bipush 40, 2) := by decide +kernel
theorem dX4_spread_129 : decode cX4_spread 129 = .ok (.imul, 1) := by decide +kernel
theorem dX4_spread_130 : decode cX4_spread 130 = .ok (.iload 5, 2) := by decide +kernel
theorem dX4_spread_132 : decode cX4_spread 132 = .ok (.iadd, 1) := by decide +kernel
theorem dX4_spread_133 : decode cX4_spread 133 = .ok (.iaload, 1) := by decide +kernel
theorem dX4_spread_134 : decode cX4_spread 134 = .ok (.iadd, 1) := by decide +kernel
theorem dX4_spread_135 : decode cX4_spread 135 = .ok (.iload 5, 2) := by decide +kernel
theorem dX4_spread_137 : decode cX4_spread 137 = .ok (.iload_n 3, 1) := by decide +kernel
theorem dX4_spread_138 : decode cX4_spread 138 = .ok (.if_icmp .ne 8, 3) := by decide +kernel
theorem dX4_spread_141 : decode cX4_spread 141 = .ok (.iload 4, 2) := by decide +kernel
theorem dX4_spread_143 : decode cX4_spread 143 = .ok (.goto 4, 3) := by decide +kernel
theorem dX4_spread_146 : decode cX4_spread 146 = .ok (.iconst 0, 1) := by decide +kernel
theorem dX4_spread_147 : decode cX4_spread 147 = .ok (.iadd, 1) := by decide +kernel
theorem dX4_spread_148 : decode cX4_spread 148 = .ok (.iastore, 1) := by decide +kernel
theorem dX4_spread_149 : decode cX4_spread 149 = .ok (.aload_n 0, 1) := by decide +kernel
theorem dX4_spread_150 : decode cX4_spread 150 = .ok (.iload 5, 2) := by decide +kernel
theorem dX4_spread_152 : decode cX4_spread 152 = .ok (.iload 5, 2) := by decide +kernel
theorem dX4_spread_154 : decode cX4_spread 154 = .ok (.aload_n 1, 1) := by decide +kernel
theorem dX4_spread_155 : decode cX4_spread 155 = .ok (.getfield 82, 3) := by decide +kernel
theorem dX4_spread_158 : decode cX4_spread 158 = .ok (.iadd, 1) := by decide +kernel
theorem dX4_spread_159 : decode cX4_spread 159 = .ok (.invokevirtual 85, 3) := by decide +kernel
theorem dX4_spread_162 : decode cX4_spread 162 = .ok (.aload_n 0, 1) := by decide +kernel
theorem dX4_spread_163 : decode cX4_spread 163 = .ok (.dup, 1) := by decide +kernel
theorem dX4_spread_164 : decode cX4_spread 164 = .ok (.getfield 76, 3) := by decide +kernel
theorem dX4_spread_167 : decode cX4_spread 167 = .ok (.aload_n 0, 1) := by decide +kernel
theorem dX4_spread_168 : decode cX4_spread 168 = .ok (.getfield 18, 3) := by decide +kernel
theorem dX4_spread_171 : decode cX4_spread 171 = .ok (.iload 5, 2) := by decide +kernel
theorem dX4_spread_173 : decode cX4_spread 173 = .ok (.iaload, 1) := by decide +kernel
theorem dX4_spread_174 : decode cX4_spread 174 = .ok (.aload_n 0, 1) := by decide +kernel
theorem dX4_spread_175 : decode cX4_spread 175 = .ok (.getfield 24, 3) := by decide +kernel
theorem dX4_spread_178 : decode cX4_spread 178 = .ok (.iload 5, 2) := by decide +kernel
theorem dX4_spread_180 : decode cX4_spread 180 = .ok (.iaload, 1) := by decide +kernel
theorem dX4_spread_181 : decode cX4_spread 181 = .ok (.isub, 1) := by decide +kernel
theorem dX4_spread_182 : decode cX4_spread 182 = .ok (.iadd, 1) := by decide +kernel
theorem dX4_spread_183 : decode cX4_spread 183 = .ok (.putfield 76, 3) := by decide +kernel
theorem dX4_spread_186 : decode cX4_spread 186 = .ok (.iinc 5 1, 3) := by decide +kernel
theorem dX4_spread_189 : decode cX4_spread 189 = .ok (.goto (-87), 3) := by decide +kernel
theorem dX4_spread_192 : decode cX4_spread 192 = .ok (.return_, 1) := by decide +kernel
theorem dX4_coverYear_0 : decode cX4_coverYear 0 = .ok (.aload_n 0, 1) := by decide +kernel
theorem dX4_coverYear_1 : decode cX4_coverYear 1 = .ok (.getfield 21, 3) := by decide +kernel
theorem dX4_coverYear_4 : decode cX4_coverYear 4 = .ok (.iload_n 1, 1) := by decide +kernel
theorem dX4_coverYear_5 : decode cX4_coverYear 5 = .ok (.aload_n 0, 1) := by decide +kernel
theorem dX4_coverYear_6 : decode cX4_coverYear 6 = .ok (.getfield 18, 3) := by decide +kernel
theorem dX4_coverYear_9 : decode cX4_coverYear 9 = .ok (.iload_n 1, 1) := by decide +kernel
theorem dX4_coverYear_10 : decode cX4_coverYear 10 = .ok (.iaload, 1) := by decide +kernel
theorem dX4_coverYear_11 : decode cX4_coverYear 11 = .ok (.aload_n 0, 1) := by decide +kernel
theorem dX4_coverYear_12 : decode cX4_coverYear 12 = .ok (.getfield 15, 3) := by decide +kernel
theorem dX4_coverYear_15 : decode cX4_coverYear 15 = .ok (.iload_n 1, 1) := by decide +kernel
theorem dX4_coverYear_16 : decode cX4_coverYear 16 = .ok (.iaload, 1) := by decide +kernel
theorem dX4_coverYear_17 : decode cX4_coverYear 17 = .ok (.invokestatic 89, 3) := by decide +kernel
theorem dX4_coverYear_20 : decode cX4_coverYear 20 = .ok (.iastore, 1) := by decide +kernel
theorem dX4_coverYear_21 : decode cX4_coverYear 21 = .ok (.aload_n 0, 1) := by decide +kernel
theorem dX4_coverYear_22 : decode cX4_coverYear 22 = .ok (.getfield 70, 3) := by decide +kernel
theorem dX4_coverYear_25 : decode cX4_coverYear 25 = .ok (.aload_n 0, 1) := by decide +kernel
theorem dX4_coverYear_26 : decode cX4_coverYear 26 = .ok (.getfield 15, 3) := by decide +kernel
theorem dX4_coverYear_29 : decode cX4_coverYear 29 = .ok (.iload_n 1, 1) := by decide +kernel
theorem dX4_coverYear_30 : decode cX4_coverYear 30 = .ok (.iaload, 1) := by decide +kernel
theorem dX4_coverYear_31 : decode cX4_coverYear 31 = .ok (.aload_n 0, 1) := by decide +kernel
theorem dX4_coverYear_32 : decode cX4_coverYear 32 = .ok (.getfield 21, 3) := by decide +kernel
theorem dX4_coverYear_35 : decode cX4_coverYear 35 = .ok (.iload_n 1, 1) := by decide +kernel
theorem dX4_coverYear_36 : decode cX4_coverYear 36 = .ok (.iaload, 1) := by decide +kernel
theorem dX4_coverYear_37 : decode cX4_coverYear 37 = .ok (.isub, 1) := by decide +kernel
theorem dX4_coverYear_38 : decode cX4_coverYear 38 = .ok (.invokestatic 89, 3) := by decide +kernel
theorem dX4_coverYear_41 : decode cX4_coverYear 41 = .ok (.istore_n 3, 1) := by decide +kernel
theorem dX4_coverYear_42 : decode cX4_coverYear 42 = .ok (.aload_n 0, 1) := by decide +kernel
theorem dX4_coverYear_43 : decode cX4_coverYear 43 = .ok (.getfield 24, 3) := by decide +kernel
theorem dX4_coverYear_46 : decode cX4_coverYear 46 = .ok (.iload_n 1, 1) := by decide +kernel
theorem dX4_coverYear_47 : decode cX4_coverYear 47 = .ok (.aload_n 0, 1) := by decide +kernel
theorem dX4_coverYear_48 : decode cX4_coverYear 48 = .ok (.getfield 21, 3) := by decide +kernel
theorem dX4_coverYear_51 : decode cX4_coverYear 51 = .ok (.iload_n 1, 1) := by decide +kernel
theorem dX4_coverYear_52 : decode cX4_coverYear 52 = .ok (.iaload, 1) := by decide +kernel
theorem dX4_coverYear_53 : decode cX4_coverYear 53 = .ok (.iload_n 3, 1) := by decide +kernel
theorem dX4_coverYear_54 : decode cX4_coverYear 54 = .ok (.iadd, 1) := by decide +kernel
theorem dX4_coverYear_55 : decode cX4_coverYear 55 = .ok (.iastore, 1) := by decide +kernel
theorem dX4_coverYear_56 : decode cX4_coverYear 56 = .ok (.aload_n 0, 1) := by decide +kernel
theorem dX4_coverYear_57 : decode cX4_coverYear 57 = .ok (.iload_n 1, 1) := by decide +kernel
theorem dX4_coverYear_58 : decode cX4_coverYear 58 = .ok (.iload_n 3, 1) := by decide +kernel
theorem dX4_coverYear_59 : decode cX4_coverYear 59 = .ok (.invokevirtual 94, 3) := by decide +kernel
theorem dX4_coverYear_62 : decode cX4_coverYear 62 = .ok (.aload_n 0, 1) := by decide +kernel
theorem dX4_coverYear_63 : decode cX4_coverYear 63 = .ok (.getfield 18, 3) := by decide +kernel
theorem dX4_coverYear_66 : decode cX4_coverYear 66 = .ok (.iload_n 1, 1) := by decide +kernel
theorem dX4_coverYear_67 : decode cX4_coverYear 67 = .ok (.iaload, 1) := by decide +kernel
theorem dX4_coverYear_68 : decode cX4_coverYear 68 = .ok (.aload_n 0, 1) := by decide +kernel
theorem dX4_coverYear_69 : decode cX4_coverYear 69 = .ok (.getfield 21, 3) := by decide +kernel
theorem dX4_coverYear_72 : decode cX4_coverYear 72 = .ok (.iload_n 1, 1) := by decide +kernel
theorem dX4_coverYear_73 : decode cX4_coverYear 73 = .ok (.iaload, 1) := by decide +kernel
theorem dX4_coverYear_74 : decode cX4_coverYear 74 = .ok (.isub, 1) := by decide +kernel
theorem dX4_coverYear_75 : decode cX4_coverYear 75 = .ok (.istore 4, 2) := by decide +kernel
theorem dX4_coverYear_77 : decode cX4_coverYear 77 = .ok (.iload_n 2, 1) := by decide +kernel
theorem dX4_coverYear_78 : decode cX4_coverYear 78 = .ok (.aload_n 0, 1) := by decide +kernel
theorem dX4_coverYear_79 : decode cX4_coverYear 79 = .ok (.getfield 33, 3) := by decide +kernel
theorem dX4_coverYear_82 : decode cX4_coverYear 82 = .ok (.arraylength, 1) := by decide +kernel
theorem dX4_coverYear_83 : decode cX4_coverYear 83 = .ok (.if_icmp .ge 14, 3) := by decide +kernel
theorem dX4_coverYear_86 : decode cX4_coverYear 86 = .ok (.aload_n 0, 1) := by decide +kernel
theorem dX4_coverYear_87 : decode cX4_coverYear 87 = .ok (.getfield 33, 3) := by decide +kernel
theorem dX4_coverYear_90 : decode cX4_coverYear 90 = .ok (.iload_n 2, 1) := by decide +kernel
theorem dX4_coverYear_91 : decode cX4_coverYear 91 = .ok (.dup2, 1) := by decide +kernel
theorem dX4_coverYear_92 : decode cX4_coverYear 92 = .ok (.iaload, 1) := by decide +kernel
theorem dX4_coverYear_93 : decode cX4_coverYear 93 = .ok (.iload 4, 2) := by decide +kernel
theorem dX4_coverYear_95 : decode cX4_coverYear 95 = .ok (.iadd, 1) := by decide +kernel
theorem dX4_coverYear_96 : decode cX4_coverYear 96 = .ok (.iastore, 1) := by decide +kernel
theorem dX4_coverYear_97 : decode cX4_coverYear 97 = .ok (.aload_n 0, 1) := by decide +kernel
theorem dX4_coverYear_98 : decode cX4_coverYear 98 = .ok (.dup, 1) := by decide +kernel
theorem dX4_coverYear_99 : decode cX4_coverYear 99 = .ok (.getfield 70, 3) := by decide +kernel
theorem dX4_coverYear_102 : decode cX4_coverYear 102 = .ok (.iload 4, 2) := by decide +kernel
theorem dX4_coverYear_104 : decode cX4_coverYear 104 = .ok (.iload_n 3, 1) := by decide +kernel
theorem dX4_coverYear_105 : decode cX4_coverYear 105 = .ok (.isub, 1) := by decide +kernel
theorem dX4_coverYear_106 : decode cX4_coverYear 106 = .ok (.aload_n 0, 1) := by decide +kernel
theorem dX4_coverYear_107 : decode cX4_coverYear 107 = .ok (.getfield 33, 3) := by decide +kernel
theorem dX4_coverYear_110 : decode cX4_coverYear 110 = .ok (.iload_n 1, 1) := by decide +kernel
theorem dX4_coverYear_111 : decode cX4_coverYear 111 = .ok (.iaload, 1) := by decide +kernel
theorem dX4_coverYear_112 : decode cX4_coverYear 112 = .ok (.isub, 1) := by decide +kernel
theorem dX4_coverYear_113 : decode cX4_coverYear 113 = .ok (.iadd, 1) := by decide +kernel
theorem dX4_coverYear_114 : decode cX4_coverYear 114 = .ok (.putfield 70, 3) := by decide +kernel
theorem dX4_coverYear_117 : decode cX4_coverYear 117 = .ok (.aload_n 0, 1) := by decide +kernel
theorem dX4_coverYear_118 : decode cX4_coverYear 118 = .ok (.getfield 27, 3) := by decide +kernel
theorem dX4_coverYear_121 : decode cX4_coverYear 121 = .ok (.iload_n 1, 1) := by decide +kernel
theorem dX4_coverYear_122 : decode cX4_coverYear 122 = .ok (.aload_n 0, 1) := by decide +kernel
theorem dX4_coverYear_123 : decode cX4_coverYear 123 = .ok (.getfield 70, 3) := by decide +kernel
theorem dX4_coverYear_126 : decode cX4_coverYear 126 = .ok (.iastore, 1) := by decide +kernel
theorem dX4_coverYear_127 : decode cX4_coverYear 127 = .ok (.return_, 1) := by decide +kernel
theorem dX4_useEarliest_0 : decode cX4_useEarliest 0 = .ok (.iload_n 2, 1) := by decide +kernel
theorem dX4_useEarliest_1 : decode cX4_useEarliest 1 = .ok (.istore_n 3, 1) := by decide +kernel
theorem dX4_useEarliest_2 : decode cX4_useEarliest 2 = .ok (.iload_n 1, 1) := by decide +kernel
theorem dX4_useEarliest_3 : decode cX4_useEarliest 3 = .ok (.istore 4, 2) := by decide +kernel
theorem dX4_useEarliest_5 : decode cX4_useEarliest 5 = .ok (.iload 4, 2) := by decide +kernel
theorem dX4_useEarliest_7 : decode cX4_useEarliest 7 = .ok (.aload_n 0, 1) := by decide +kernel
theorem dX4_useEarliest_8 : decode cX4_useEarliest 8 = .ok (.getfield 33, 3) := by decide +kernel
theorem dX4_useEarliest_11 : decode cX4_useEarliest 11 = .ok (.arraylength, 1) := by decide +kernel
theorem dX4_useEarliest_12 : decode cX4_useEarliest 12 = .ok (.if_icmp .ge 43, 3) := by decide +kernel
theorem dX4_useEarliest_15 : decode cX4_useEarliest 15 = .ok (.iload_n 3, 1) := by decide +kernel
theorem dX4_useEarliest_16 : decode cX4_useEarliest 16 = .ok (.ifCond .le 39, 3) := by decide +kernel
theorem dX4_useEarliest_19 : decode cX4_useEarliest 19 = .ok (.iload_n 3, 1) := by decide +kernel
theorem dX4_useEarliest_20 : decode cX4_useEarliest 20 = .ok (.aload_n 0, 1) := by decide +kernel
theorem dX4_useEarliest_21 : decode cX4_useEarliest 21 = .ok (.getfield 33, 3) := by decide +kernel
theorem dX4_useEarliest_24 : decode cX4_useEarliest 24 = .ok (.iload 4, 2) := by decide +kernel
theorem dX4_useEarliest_26 : decode cX4_useEarliest 26 = .ok (.iaload, 1) := by decide +kernel
theorem dX4_useEarliest_27 : decode cX4_useEarliest 27 = .ok (.invokestatic 89, 3) := by decide +kernel
theorem dX4_useEarliest_30 : decode cX4_useEarliest 30 = .ok (.istore 5, 2) := by decide +kernel
theorem dX4_useEarliest_32 : decode cX4_useEarliest 32 = .ok (.aload_n 0, 1) := by decide +kernel
theorem dX4_useEarliest_33 : decode cX4_useEarliest 33 = .ok (.getfield 33, 3) := by decide +kernel
theorem dX4_useEarliest_36 : decode cX4_useEarliest 36 = .ok (.iload 4, 2) := by decide +kernel
theorem dX4_useEarliest_38 : decode cX4_useEarliest 38 = .ok (.dup2, 1) := by decide +kernel
theorem dX4_useEarliest_39 : decode cX4_useEarliest 39 = .ok (.iaload, 1) := by decide +kernel
theorem dX4_useEarliest_40 : decode cX4_useEarliest 40 = .ok (.iload 5, 2) := by decide +kernel
theorem dX4_useEarliest_42 : decode cX4_useEarliest 42 = .ok (.isub, 1) := by decide +kernel
theorem dX4_useEarliest_43 : decode cX4_useEarliest 43 = .ok (.iastore, 1) := by decide +kernel
theorem dX4_useEarliest_44 : decode cX4_useEarliest 44 = .ok (.iload_n 3, 1) := by decide +kernel
theorem dX4_useEarliest_45 : decode cX4_useEarliest 45 = .ok (.iload 5, 2) := by decide +kernel
theorem dX4_useEarliest_47 : decode cX4_useEarliest 47 = .ok (.isub, 1) := by decide +kernel
theorem dX4_useEarliest_48 : decode cX4_useEarliest 48 = .ok (.istore_n 3, 1) := by decide +kernel
theorem dX4_useEarliest_49 : decode cX4_useEarliest 49 = .ok (.iinc 4 1, 3) := by decide +kernel
theorem dX4_useEarliest_52 : decode cX4_useEarliest 52 = .ok (.goto (-47), 3) := by decide +kernel
theorem dX4_useEarliest_55 : decode cX4_useEarliest 55 = .ok (.return_, 1) := by decide +kernel
theorem dX4_supposeRate_0 : decode cX4_supposeRate 0 = .ok (.iload_n 1, 1) := by decide +kernel
theorem dX4_supposeRate_1 : decode cX4_supposeRate 1 = .ok (.istore_n 3, 1) := by decide +kernel
theorem dX4_supposeRate_2 : decode cX4_supposeRate 2 = .ok (.iload_n 3, 1) := by decide +kernel
theorem dX4_supposeRate_3 : decode cX4_supposeRate 3 = .ok (.bipush 40, 2) := by decide +kernel
theorem dX4_supposeRate_5 : decode cX4_supposeRate 5 = .ok (.if_icmp .ge 16, 3) := by decide +kernel
theorem dX4_supposeRate_8 : decode cX4_supposeRate 8 = .ok (.aload_n 0, 1) := by decide +kernel
theorem dX4_supposeRate_9 : decode cX4_supposeRate 9 = .ok (.getfield 30, 3) := by decide +kernel
theorem dX4_supposeRate_12 : decode cX4_supposeRate 12 = .ok (.iload_n 3, 1) := by decide +kernel
theorem dX4_supposeRate_13 : decode cX4_supposeRate 13 = .ok (.iload_n 2, 1) := by decide +kernel
theorem dX4_supposeRate_14 : decode cX4_supposeRate 14 = .ok (.iastore, 1) := by decide +kernel
theorem dX4_supposeRate_15 : decode cX4_supposeRate 15 = .ok (.iinc 3 1, 3) := by decide +kernel
theorem dX4_supposeRate_18 : decode cX4_supposeRate 18 = .ok (.goto (-16), 3) := by decide +kernel
theorem dX4_supposeRate_21 : decode cX4_supposeRate 21 = .ok (.return_, 1) := by decide +kernel
theorem dX4_taxOn_0 : decode cX4_taxOn 0 = .ok (.lconst 0, 1) := by decide +kernel
theorem dX4_taxOn_1 : decode cX4_taxOn 1 = .ok (.lstore_n 2, 1) := by decide +kernel
theorem dX4_taxOn_2 : decode cX4_taxOn 2 = .ok (.iconst 0, 1) := by decide +kernel
theorem dX4_taxOn_3 : decode cX4_taxOn 3 = .ok (.istore 4, 2) := by decide +kernel
theorem dX4_taxOn_5 : decode cX4_taxOn 5 = .ok (.iload 4, 2) := by decide +kernel
theorem dX4_taxOn_7 : decode cX4_taxOn 7 = .ok (.bipush 40, 2) := by decide +kernel
theorem dX4_taxOn_9 : decode cX4_taxOn 9 = .ok (.if_icmp .ge 37, 3) := by decide +kernel
theorem dX4_taxOn_12 : decode cX4_taxOn 12 = .ok (.iload 4, 2) := by decide +kernel
theorem dX4_taxOn_14 : decode cX4_taxOn 14 = .ok (.aload_n 1, 1) := by decide +kernel
theorem dX4_taxOn_15 : decode cX4_taxOn 15 = .ok (.arraylength, 1) := by decide +kernel
theorem dX4_taxOn_16 : decode cX4_taxOn 16 = .ok (.if_icmp .ge 30, 3) := by decide +kernel
theorem dX4_taxOn_19 : decode cX4_taxOn 19 = .ok (.lload_n 2, 1) := by decide +kernel
theorem dX4_taxOn_20 : decode cX4_taxOn 20 = .ok (.aload_n 1, 1) := by decide +kernel
theorem dX4_taxOn_21 : decode cX4_taxOn 21 = .ok (.iload 4, 2) := by decide +kernel
theorem dX4_taxOn_23 : decode cX4_taxOn 23 = .ok (.iaload, 1) := by decide +kernel
theorem dX4_taxOn_24 : decode cX4_taxOn 24 = .ok (.i2l, 1) := by decide +kernel
theorem dX4_taxOn_25 : decode cX4_taxOn 25 = .ok (.aload_n 0, 1) := by decide +kernel
theorem dX4_taxOn_26 : decode cX4_taxOn 26 = .ok (.getfield 30, 3) := by decide +kernel
theorem dX4_taxOn_29 : decode cX4_taxOn 29 = .ok (.iload 4, 2) := by decide +kernel
theorem dX4_taxOn_31 : decode cX4_taxOn 31 = .ok (.iaload, 1) := by decide +kernel
theorem dX4_taxOn_32 : decode cX4_taxOn 32 = .ok (.i2l, 1) := by decide +kernel
theorem dX4_taxOn_33 : decode cX4_taxOn 33 = .ok (.lmul, 1) := by decide +kernel
theorem dX4_taxOn_34 : decode cX4_taxOn 34 = .ok (.ldc2_w 97, 3) := by decide +kernel
theorem dX4_taxOn_37 : decode cX4_taxOn 37 = .ok (.ldiv, 1) := by decide +kernel
theorem dX4_taxOn_38 : decode cX4_taxOn 38 = .ok (.ladd, 1) := by decide +kernel
theorem dX4_taxOn_39 : decode cX4_taxOn 39 = .ok (.lstore_n 2, 1) := by decide +kernel
theorem dX4_taxOn_40 : decode cX4_taxOn 40 = .ok (.iinc 4 1, 3) := by decide +kernel
theorem dX4_taxOn_43 : decode cX4_taxOn 43 = .ok (.goto (-38), 3) := by decide +kernel
theorem dX4_taxOn_46 : decode cX4_taxOn 46 = .ok (.lload_n 2, 1) := by decide +kernel
theorem dX4_taxOn_47 : decode cX4_taxOn 47 = .ok (.l2i, 1) := by decide +kernel
theorem dX4_taxOn_48 : decode cX4_taxOn 48 = .ok (.ireturn, 1) := by decide +kernel
theorem dX4_liability_0 : decode cX4_liability 0 = .ok (.aload_n 0, 1) := by decide +kernel
theorem dX4_liability_1 : decode cX4_liability 1 = .ok (.aload_n 0, 1) := by decide +kernel
theorem dX4_liability_2 : decode cX4_liability 2 = .ok (.getfield 9, 3) := by decide +kernel
theorem dX4_liability_5 : decode cX4_liability 5 = .ok (.invokevirtual 99, 3) := by decide +kernel
theorem dX4_liability_8 : decode cX4_liability 8 = .ok (.ireturn, 1) := by decide +kernel
theorem dX4_asset_0 : decode cX4_asset 0 = .ok (.aload_n 0, 1) := by decide +kernel
theorem dX4_asset_1 : decode cX4_asset 1 = .ok (.aload_n 0, 1) := by decide +kernel
theorem dX4_asset_2 : decode cX4_asset 2 = .ok (.getfield 24, 3) := by decide +kernel
theorem dX4_asset_5 : decode cX4_asset 5 = .ok (.invokevirtual 99, 3) := by decide +kernel
theorem dX4_asset_8 : decode cX4_asset 8 = .ok (.ireturn, 1) := by decide +kernel
theorem dX4_net_0 : decode cX4_net 0 = .ok (.aload_n 0, 1) := by decide +kernel
theorem dX4_net_1 : decode cX4_net 1 = .ok (.invokevirtual 103, 3) := by decide +kernel
theorem dX4_net_4 : decode cX4_net 4 = .ok (.aload_n 0, 1) := by decide +kernel
theorem dX4_net_5 : decode cX4_net 5 = .ok (.invokevirtual 107, 3) := by decide +kernel
theorem dX4_net_8 : decode cX4_net 8 = .ok (.isub, 1) := by decide +kernel
theorem dX4_net_9 : decode cX4_net 9 = .ok (.ireturn, 1) := by decide +kernel
theorem dX4_unrecognised_0 : decode cX4_unrecognised 0 = .ok (.aload_n 0, 1) := by decide +kernel
theorem dX4_unrecognised_1 : decode cX4_unrecognised 1 = .ok (.getfield 76, 3) := by decide +kernel
theorem dX4_unrecognised_4 : decode cX4_unrecognised 4 = .ok (.ireturn, 1) := by decide +kernel
theorem dX6_init_0 : decode cX6_init 0 = .ok (.aload_n 0, 1) := by decide +kernel
theorem dX6_init_1 : decode cX6_init 1 = .ok (.invokespecial 3, 3) := by decide +kernel
theorem dX6_init_4 : decode cX6_init 4 = .ok (.aload_n 0, 1) := by decide +kernel
theorem dX6_init_5 : decode cX6_init 5 = .ok (.new 9, 3) := by decide +kernel
theorem dX6_init_8 : decode cX6_init 8 = .ok (.dup, 1) := by decide +kernel
theorem dX6_init_9 : decode cX6_init 9 = .ok (.invokespecial 11, 3) := by decide +kernel
theorem dX6_init_12 : decode cX6_init 12 = .ok (.putfield 12, 3) := by decide +kernel
theorem dX6_init_15 : decode cX6_init 15 = .ok (.aload_n 0, 1) := by decide +kernel
theorem dX6_init_16 : decode cX6_init 16 = .ok (.iconst 4, 1) := by decide +kernel
theorem dX6_init_17 : decode cX6_init 17 = .ok (.newarray .int, 2) := by decide +kernel
theorem dX6_init_19 : decode cX6_init 19 = .ok (.putfield 18, 3) := by decide +kernel
theorem dX6_init_22 : decode cX6_init 22 = .ok (.aload_n 0, 1) := by decide +kernel
theorem dX6_init_23 : decode cX6_init 23 = .ok (.new 22, 3) := by decide +kernel
theorem dX6_init_26 : decode cX6_init 26 = .ok (.dup, 1) := by decide +kernel
theorem dX6_init_27 : decode cX6_init 27 = .ok (.invokespecial 24, 3) := by decide +kernel
theorem dX6_init_30 : decode cX6_init 30 = .ok (.putfield 25, 3) := by decide +kernel
theorem dX6_init_33 : decode cX6_init 33 = .ok (.return_, 1) := by decide +kernel
theorem dX6_exchange_0 : decode cX6_exchange 0 = .ok (.aload_n 0, 1) := by decide +kernel
theorem dX6_exchange_1 : decode cX6_exchange 1 = .ok (.getfield 25, 3) := by decide +kernel
theorem dX6_exchange_4 : decode cX6_exchange 4 = .ok (.astore_n 2, 1) := by decide +kernel
theorem dX6_exchange_5 : decode cX6_exchange 5 = .ok (.aload_n 0, 1) := by decide +kernel
theorem dX6_exchange_6 : decode cX6_exchange 6 = .ok (.aload_n 1, 1) := by decide +kernel
theorem dX6_exchange_7 : decode cX6_exchange 7 = .ok (.putfield 25, 3) := by decide +kernel
theorem dX6_exchange_10 : decode cX6_exchange 10 = .ok (.aload_n 2, 1) := by decide +kernel
theorem dX6_exchange_11 : decode cX6_exchange 11 = .ok (.areturn, 1) := by decide +kernel
theorem dX6_reads_0 : decode cX6_reads 0 = .ok (.aload_n 0, 1) := by decide +kernel
theorem dX6_reads_1 : decode cX6_reads 1 = .ok (.getfield 25, 3) := by decide +kernel
theorem dX6_reads_4 : decode cX6_reads 4 = .ok (.invokevirtual 29, 3) := by decide +kernel
theorem dX6_reads_7 : decode cX6_reads 7 = .ok (.aload_n 0, 1) := by decide +kernel
theorem dX6_reads_8 : decode cX6_reads 8 = .ok (.iconst 0, 1) := by decide +kernel
theorem dX6_reads_9 : decode cX6_reads 9 = .ok (.putfield 32, 3) := by decide +kernel
theorem dX6_reads_12 : decode cX6_reads 12 = .ok (.aload_n 0, 1) := by decide +kernel
theorem dX6_reads_13 : decode cX6_reads 13 = .ok (.iconst 0, 1) := by decide +kernel
theorem dX6_reads_14 : decode cX6_reads 14 = .ok (.putfield 36, 3) := by decide +kernel
theorem dX6_reads_17 : decode cX6_reads 17 = .ok (.aload_n 0, 1) := by decide +kernel
theorem dX6_reads_18 : decode cX6_reads 18 = .ok (.iconst 0, 1) := by decide +kernel
theorem dX6_reads_19 : decode cX6_reads 19 = .ok (.putfield 39, 3) := by decide +kernel
theorem dX6_reads_22 : decode cX6_reads 22 = .ok (.iconst 0, 1) := by decide +kernel
theorem dX6_reads_23 : decode cX6_reads 23 = .ok (.istore_n 1, 1) := by decide +kernel
theorem dX6_reads_24 : decode cX6_reads 24 = .ok (.iload_n 1, 1) := by decide +kernel
theorem dX6_reads_25 : decode cX6_reads 25 = .ok (.sipush 640, 3) := by decide +kernel
theorem dX6_reads_28 : decode cX6_reads 28 = .ok (.if_icmp .gt 88, 3) := by decide +kernel
theorem dX6_reads_31 : decode cX6_reads 31 = .ok (.aload_n 0, 1) := by decide +kernel
theorem dX6_reads_32 : decode cX6_reads 32 = .ok (.invokevirtual 42, 3) := by decide +kernel
theorem dX6_reads_35 : decode cX6_reads 35 = .ok (.aload_n 0, 1) := by decide +kernel
theorem dX6_reads_36 : decode cX6_reads 36 = .ok (.getfield 45, 3) := by decide +kernel
theorem dX6_reads_39 : decode cX6_reads 39 = .ok (.iconst 1, 1) := by decide +kernel
theorem dX6_reads_40 : decode cX6_reads 40 = .ok (.if_icmp .ne 13, 3) := by decide +kernel
theorem dX6_reads_43 : decode cX6_reads 43 = .ok (.aload_n 0, 1) := by decide +kernel
theorem dX6_reads_44 : decode cX6_reads 44 = .ok (.getfield 36, 3) := by decide +kernel
theorem dX6_reads_47 : decode cX6_reads 47 = .ok (.iconst 2, 1) := by decide +kernel
theorem dX6_reads_48 : decode cX6_reads 48 = .ok (.if_icmp .lt 5, 3) := by decide +kernel
theorem dX6_reads_51 : decode cX6_reads 51 = .ok (.iconst 1, 1) := by decide +kernel
theorem dX6_reads_52 : decode cX6_reads 52 = .ok (.ireturn, 1) := by decide +kernel
theorem dX6_reads_53 : decode cX6_reads 53 = .ok (.aload_n 0, 1) := by decide +kernel
theorem dX6_reads_54 : decode cX6_reads 54 = .ok (.invokevirtual 48, 3) := by decide +kernel
theorem dX6_reads_57 : decode cX6_reads 57 = .ok (.astore_n 2, 1) := by decide +kernel
theorem dX6_reads_58 : decode cX6_reads 58 = .ok (.aload_n 2, 1) := by decide +kernel
theorem dX6_reads_59 : decode cX6_reads 59 = .ok (.ifnonnull 9, 3) := by decide +kernel
theorem dX6_reads_62 : decode cX6_reads 62 = .ok (.aload_n 0, 1) := by decide +kernel
theorem dX6_reads_63 : decode cX6_reads 63 = .ok (.iconst 1, 1) := by decide +kernel
theorem dX6_reads_64 : decode cX6_reads 64 = .ok (.invokevirtual 52, 3) := by decide +kernel
theorem dX6_reads_67 : decode cX6_reads 67 = .ok (.ireturn, 1) := by decide +kernel
theorem dX6_reads_68 : decode cX6_reads 68 = .ok (.aload_n 0, 1) := by decide +kernel
theorem dX6_reads_69 : decode cX6_reads 69 = .ok (.aload_n 2, 1) := by decide +kernel
theorem dX6_reads_70 : decode cX6_reads 70 = .ok (.invokevirtual 56, 3) := by decide +kernel
theorem dX6_reads_73 : decode cX6_reads 73 = .ok (.ifCond .eq 9, 3) := by decide +kernel
theorem dX6_reads_76 : decode cX6_reads 76 = .ok (.aload_n 0, 1) := by decide +kernel
theorem dX6_reads_77 : decode cX6_reads 77 = .ok (.iconst 3, 1) := by decide +kernel
theorem dX6_reads_78 : decode cX6_reads 78 = .ok (.invokevirtual 52, 3) := by decide +kernel
theorem dX6_reads_81 : decode cX6_reads 81 = .ok (.ireturn, 1) := by decide +kernel
theorem dX6_reads_82 : decode cX6_reads 82 = .ok (.aload_n 0, 1) := by decide +kernel
theorem dX6_reads_83 : decode cX6_reads 83 = .ok (.aload_n 2, 1) := by decide +kernel
theorem dX6_reads_84 : decode cX6_reads 84 = .ok (.getfield 60, 3) := by decide +kernel
theorem dX6_reads_87 : decode cX6_reads 87 = .ok (.invokevirtual 66, 3) := by decide +kernel
theorem dX6_reads_90 : decode cX6_reads 90 = .ok (.ifCond .ne 5, 3) := by decide +kernel
theorem dX6_reads_93 : decode cX6_reads 93 = .ok (.iconst 0, 1) := by decide +kernel
theorem dX6_reads_94 : decode cX6_reads 94 = .ok (.ireturn, 1) := by decide +kernel
theorem dX6_reads_95 : decode cX6_reads 95 = .ok (.aload_n 0, 1) := by decide +kernel
theorem dX6_reads_96 : decode cX6_reads 96 = .ok (.aload_n 2, 1) := by decide +kernel
theorem dX6_reads_97 : decode cX6_reads 97 = .ok (.invokevirtual 70, 3) := by decide +kernel
theorem dX6_reads_100 : decode cX6_reads 100 = .ok (.aload_n 0, 1) := by decide +kernel
theorem dX6_reads_101 : decode cX6_reads 101 = .ok (.dup, 1) := by decide +kernel
theorem dX6_reads_102 : decode cX6_reads 102 = .ok (.getfield 36, 3) := by decide +kernel
theorem dX6_reads_105 : decode cX6_reads 105 = .ok (.iconst 1, 1) := by decide +kernel
theorem dX6_reads_106 : decode cX6_reads 106 = .ok (.iadd, 1) := by decide +kernel
