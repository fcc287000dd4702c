theorem dX0_init_0 : decode cX0_init 0 = .ok (.aload_n 0, 1) := by decide +kernel
theorem dX0_init_1 : decode cX0_init 1 = .ok (.invokespecial 1, 3) := by decide +kernel
theorem dX0_init_4 : decode cX0_init 4 = .ok (.aload_n 0, 1) := by decide +kernel
theorem dX0_init_5 : decode cX0_init 5 = .ok (.iconst 3, 1) := by decide +kernel
theorem dX0_init_6 : decode cX0_init 6 = .ok (.newarray .int, 2) := by decide +kernel
theorem dX0_init_8 : decode cX0_init 8 = .ok (.putfield 7, 3) := by decide +kernel
theorem dX0_init_11 : decode cX0_init 11 = .ok (.return_, 1) := by decide +kernel
theorem dX0_find_0 : decode cX0_find 0 = .ok (.aload_n 0, 1) := by decide +kernel
theorem dX0_find_1 : decode cX0_find 1 = .ok (.iconst 0, 1) := by decide +kernel
theorem dX0_find_2 : decode cX0_find 2 = .ok (.putfield 13, 3) := by decide +kernel
theorem dX0_find_5 : decode cX0_find 5 = .ok (.aload_n 0, 1) := by decide +kernel
theorem dX0_find_6 : decode cX0_find 6 = .ok (.iconst 0, 1) := by decide +kernel
theorem dX0_find_7 : decode cX0_find 7 = .ok (.putfield 17, 3) := by decide +kernel
theorem dX0_find_10 : decode cX0_find 10 = .ok (.iconst 0, 1) := by decide +kernel
theorem dX0_find_11 : decode cX0_find 11 = .ok (.istore_n 2, 1) := by decide +kernel
theorem dX0_find_12 : decode cX0_find 12 = .ok (.iload_n 2, 1) := by decide +kernel
theorem dX0_find_13 : decode cX0_find 13 = .ok (.aload_n 1, 1) := by decide +kernel
theorem dX0_find_14 : decode cX0_find 14 = .ok (.getfield 20, 3) := by decide +kernel
theorem dX0_find_17 : decode cX0_find 17 = .ok (.if_icmp .ge 51, 3) := by decide +kernel
theorem dX0_find_20 : decode cX0_find 20 = .ok (.iload_n 2, 1) := by decide +kernel
theorem dX0_find_21 : decode cX0_find 21 = .ok (.iconst 1, 1) := by decide +kernel
theorem dX0_find_22 : decode cX0_find 22 = .ok (.iadd, 1) := by decide +kernel
theorem dX0_find_23 : decode cX0_find 23 = .ok (.istore_n 3, 1) := by decide +kernel
theorem dX0_find_24 : decode cX0_find 24 = .ok (.iload_n 3, 1) := by decide +kernel
theorem dX0_find_25 : decode cX0_find 25 = .ok (.aload_n 1, 1) := by decide +kernel
theorem dX0_find_26 : decode cX0_find 26 = .ok (.getfield 20, 3) := by decide +kernel
theorem dX0_find_29 : decode cX0_find 29 = .ok (.if_icmp .ge 33, 3) := by decide +kernel
theorem dX0_find_32 : decode cX0_find 32 = .ok (.aload_n 0, 1) := by decide +kernel
theorem dX0_find_33 : decode cX0_find 33 = .ok (.aload_n 1, 1) := by decide +kernel
theorem dX0_find_34 : decode cX0_find 34 = .ok (.getfield 25, 3) := by decide +kernel
theorem dX0_find_37 : decode cX0_find 37 = .ok (.iload_n 2, 1) := by decide +kernel
theorem dX0_find_38 : decode cX0_find 38 = .ok (.aaload, 1) := by decide +kernel
theorem dX0_find_39 : decode cX0_find 39 = .ok (.aload_n 1, 1) := by decide +kernel
theorem dX0_find_40 : decode cX0_find 40 = .ok (.getfield 25, 3) := by decide +kernel
theorem dX0_find_43 : decode cX0_find 43 = .ok (.iload_n 3, 1) := by decide +kernel
theorem dX0_find_44 : decode cX0_find 44 = .ok (.aaload, 1) := by decide +kernel
theorem dX0_find_45 : decode cX0_find 45 = .ok (.aconst_null, 1) := by decide +kernel
theorem dX0_find_46 : decode cX0_find 46 = .ok (.invokestatic 29, 3) := by decide +kernel
theorem dX0_find_49 : decode cX0_find 49 = .ok (.iconst 2, 1) := by decide +kernel
theorem dX0_find_50 : decode cX0_find 50 = .ok (.iload_n 2, 1) := by decide +kernel
theorem dX0_find_51 : decode cX0_find 51 = .ok (.iload_n 3, 1) := by decide +kernel
theorem dX0_find_52 : decode cX0_find 52 = .ok (.iconst (-1), 1) := by decide +kernel
theorem dX0_find_53 : decode cX0_find 53 = .ok (.invokevirtual 33, 3) := by decide +kernel
theorem dX0_find_56 : decode cX0_find 56 = .ok (.iinc 3 1, 3) := by decide +kernel
theorem dX0_find_59 : decode cX0_find 59 = .ok (.goto (-35), 3) := by decide +kernel
theorem dX0_find_62 : decode cX0_find 62 = .ok (.iinc 2 1, 3) := by decide +kernel
theorem dX0_find_65 : decode cX0_find 65 = .ok (.goto (-53), 3) := by decide +kernel
theorem dX0_find_68 : decode cX0_find 68 = .ok (.iconst 0, 1) := by decide +kernel
theorem dX0_find_69 : decode cX0_find 69 = .ok (.istore_n 2, 1) := by decide +kernel
theorem dX0_find_70 : decode cX0_find 70 = .ok (.iload_n 2, 1) := by decide +kernel
theorem dX0_find_71 : decode cX0_find 71 = .ok (.aload_n 1, 1) := by decide +kernel
theorem dX0_find_72 : decode cX0_find 72 = .ok (.getfield 20, 3) := by decide +kernel
theorem dX0_find_75 : decode cX0_find 75 = .ok (.if_icmp .ge 34, 3) := by decide +kernel
theorem dX0_find_78 : decode cX0_find 78 = .ok (.iload_n 2, 1) := by decide +kernel
theorem dX0_find_79 : decode cX0_find 79 = .ok (.iconst 1, 1) := by decide +kernel
theorem dX0_find_80 : decode cX0_find 80 = .ok (.iadd, 1) := by decide +kernel
theorem dX0_find_81 : decode cX0_find 81 = .ok (.istore_n 3, 1) := by decide +kernel
theorem dX0_find_82 : decode cX0_find 82 = .ok (.iload_n 3, 1) := by decide +kernel
theorem dX0_find_83 : decode cX0_find 83 = .ok (.aload_n 1, 1) := by decide +kernel
theorem dX0_find_84 : decode cX0_find 84 = .ok (.getfield 20, 3) := by decide +kernel
theorem dX0_find_87 : decode cX0_find 87 = .ok (.if_icmp .ge 16, 3) := by decide +kernel
theorem dX0_find_90 : decode cX0_find 90 = .ok (.aload_n 0, 1) := by decide +kernel
theorem dX0_find_91 : decode cX0_find 91 = .ok (.aload_n 1, 1) := by decide +kernel
theorem dX0_find_92 : decode cX0_find 92 = .ok (.iload_n 2, 1) := by decide +kernel
theorem dX0_find_93 : decode cX0_find 93 = .ok (.iload_n 3, 1) := by decide +kernel
theorem dX0_find_94 : decode cX0_find 94 = .ok (.invokevirtual 37, 3) := by decide +kernel
theorem dX0_find_97 : decode cX0_find 97 = .ok (.iinc 3 1, 3) := by decide +kernel
theorem dX0_find_100 : decode cX0_find 100 = .ok (.goto (-18), 3) := by decide +kernel
theorem dX0_find_103 : decode cX0_find 103 = .ok (.iinc 2 1, 3) := by decide +kernel
theorem dX0_find_106 : decode cX0_find 106 = .ok (.goto (-36), 3) := by decide +kernel
theorem dX0_find_109 : decode cX0_find 109 = .ok (.return_, 1) := by decide +kernel
theorem dX0_findThirds_0 : decode cX0_findThirds 0 = .ok (.iload_n 2, 1) := by decide +kernel
theorem dX0_findThirds_1 : decode cX0_findThirds 1 = .ok (.iconst 1, 1) := by decide +kernel
theorem dX0_findThirds_2 : decode cX0_findThirds 2 = .ok (.iadd, 1) := by decide +kernel
theorem dX0_findThirds_3 : decode cX0_findThirds 3 = .ok (.istore 4, 2) := by decide +kernel
theorem dX0_findThirds_5 : decode cX0_findThirds 5 = .ok (.iload 4, 2) := by decide +kernel
theorem dX0_findThirds_7 : decode cX0_findThirds 7 = .ok (.aload_n 1, 1) := by decide +kernel
theorem dX0_findThirds_8 : decode cX0_findThirds 8 = .ok (.getfield 20, 3) := by decide +kernel
theorem dX0_findThirds_11 : decode cX0_findThirds 11 = .ok (.if_icmp .ge 46, 3) := by decide +kernel
theorem dX0_findThirds_14 : decode cX0_findThirds 14 = .ok (.iload 4, 2) := by decide +kernel
theorem dX0_findThirds_16 : decode cX0_findThirds 16 = .ok (.iload_n 3, 1) := by decide +kernel
theorem dX0_findThirds_17 : decode cX0_findThirds 17 = .ok (.if_icmp .eq 34, 3) := by decide +kernel
theorem dX0_findThirds_20 : decode cX0_findThirds 20 = .ok (.aload_n 0, 1) := by decide +kernel
theorem dX0_findThirds_21 : decode cX0_findThirds 21 = .ok (.aload_n 1, 1) := by decide +kernel
theorem dX0_findThirds_22 : decode cX0_findThirds 22 = .ok (.getfield 25, 3) := by decide +kernel
theorem dX0_findThirds_25 : decode cX0_findThirds 25 = .ok (.iload_n 2, 1) := by decide +kernel
theorem dX0_findThirds_26 : decode cX0_findThirds 26 = .ok (.aaload, 1) := by decide +kernel
theorem dX0_findThirds_27 : decode cX0_findThirds 27 = .ok (.aload_n 1, 1) := by decide +kernel
theorem dX0_findThirds_28 : decode cX0_findThirds 28 = .ok (.getfield 25, 3) := by decide +kernel
theorem dX0_findThirds_31 : decode cX0_findThirds 31 = .ok (.iload_n 3, 1) := by decide +kernel
theorem dX0_findThirds_32 : decode cX0_findThirds 32 = .ok (.aaload, 1) := by decide +kernel
theorem dX0_findThirds_33 : decode cX0_findThirds 33 = .ok (.aload_n 1, 1) := by decide +kernel
theorem dX0_findThirds_34 : decode cX0_findThirds 34 = .ok (.getfield 25, 3) := by decide +kernel
theorem dX0_findThirds_37 : decode cX0_findThirds 37 = .ok (.iload 4, 2) := by decide +kernel
theorem dX0_findThirds_39 : decode cX0_findThirds 39 = .ok (.aaload, 1) := by decide +kernel
theorem dX0_findThirds_40 : decode cX0_findThirds 40 = .ok (.invokestatic 29, 3) := by decide +kernel
theorem dX0_findThirds_43 : decode cX0_findThirds 43 = .ok (.iconst 3, 1) := by decide +kernel
theorem dX0_findThirds_44 : decode cX0_findThirds 44 = .ok (.iload_n 2, 1) := by decide +kernel
theorem dX0_findThirds_45 : decode cX0_findThirds 45 = .ok (.iload_n 3, 1) := by decide +kernel
theorem dX0_findThirds_46 : decode cX0_findThirds 46 = .ok (.iload 4, 2) := by decide +kernel
theorem dX0_findThirds_48 : decode cX0_findThirds 48 = .ok (.invokevirtual 33, 3) := by decide +kernel
theorem dX0_findThirds_51 : decode cX0_findThirds 51 = .ok (.iinc 4 1, 3) := by decide +kernel
theorem dX0_findThirds_54 : decode cX0_findThirds 54 = .ok (.goto (-49), 3) := by decide +kernel
theorem dX0_findThirds_57 : decode cX0_findThirds 57 = .ok (.return_, 1) := by decide +kernel
theorem dX0_keepIfBetter_0 : decode cX0_keepIfBetter 0 = .ok (.iload_n 1, 1) := by decide +kernel
theorem dX0_keepIfBetter_1 : decode cX0_keepIfBetter 1 = .ok (.aload_n 0, 1) := by decide +kernel
theorem dX0_keepIfBetter_2 : decode cX0_keepIfBetter 2 = .ok (.getfield 17, 3) := by decide +kernel
theorem dX0_keepIfBetter_5 : decode cX0_keepIfBetter 5 = .ok (.if_icmp .le 36, 3) := by decide +kernel
theorem dX0_keepIfBetter_8 : decode cX0_keepIfBetter 8 = .ok (.aload_n 0, 1) := by decide +kernel
theorem dX0_keepIfBetter_9 : decode cX0_keepIfBetter 9 = .ok (.iload_n 1, 1) := by decide +kernel
theorem dX0_keepIfBetter_10 : decode cX0_keepIfBetter 10 = .ok (.putfield 17, 3) := by decide +kernel
theorem dX0_keepIfBetter_13 : decode cX0_keepIfBetter 13 = .ok (.aload_n 0, 1) := by decide +kernel
theorem dX0_keepIfBetter_14 : decode cX0_keepIfBetter 14 = .ok (.iload_n 2, 1) := by decide +kernel
theorem dX0_keepIfBetter_15 : decode cX0_keepIfBetter 15 = .ok (.putfield 13, 3) := by decide +kernel
theorem dX0_keepIfBetter_18 : decode cX0_keepIfBetter 18 = .ok (.aload_n 0, 1) := by decide +kernel
theorem dX0_keepIfBetter_19 : decode cX0_keepIfBetter 19 = .ok (.getfield 7, 3) := by decide +kernel
theorem dX0_keepIfBetter_22 : decode cX0_keepIfBetter 22 = .ok (.iconst 0, 1) := by decide +kernel
theorem dX0_keepIfBetter_23 : decode cX0_keepIfBetter 23 = .ok (.iload_n 3, 1) := by decide +kernel
theorem dX0_keepIfBetter_24 : decode cX0_keepIfBetter 24 = .ok (.iastore, 1) := by decide +kernel
theorem dX0_keepIfBetter_25 : decode cX0_keepIfBetter 25 = .ok (.aload_n 0, 1) := by decide +kernel
theorem dX0_keepIfBetter_26 : decode cX0_keepIfBetter 26 = .ok (.getfield 7, 3) := by decide +kernel
theorem dX0_keepIfBetter_29 : decode cX0_keepIfBetter 29 = .ok (.iconst 1, 1) := by decide +kernel
theorem dX0_keepIfBetter_30 : decode cX0_keepIfBetter 30 = .ok (.iload 4, 2) := by decide +kernel
theorem dX0_keepIfBetter_32 : decode cX0_keepIfBetter 32 = .ok (.iastore, 1) := by decide +kernel
theorem dX0_keepIfBetter_33 : decode cX0_keepIfBetter 33 = .ok (.aload_n 0, 1) := by decide +kernel
theorem dX0_keepIfBetter_34 : decode cX0_keepIfBetter 34 = .ok (.getfield 7, 3) := by decide +kernel
theorem dX0_keepIfBetter_37 : decode cX0_keepIfBetter 37 = .ok (.iconst 2, 1) := by decide +kernel
theorem dX0_keepIfBetter_38 : decode cX0_keepIfBetter 38 = .ok (.iload 5, 2) := by decide +kernel
theorem dX0_keepIfBetter_40 : decode cX0_keepIfBetter 40 = .ok (.iastore, 1) := by decide +kernel
theorem dX0_keepIfBetter_41 : decode cX0_keepIfBetter 41 = .ok (.return_, 1) := by decide +kernel
theorem dX0_savedBy_0 : decode cX0_savedBy 0 = .ok (.aload_n 1, 1) := by decide +kernel
theorem dX0_savedBy_1 : decode cX0_savedBy 1 = .ok (.aload_n 0, 1) := by decide +kernel
theorem dX0_savedBy_2 : decode cX0_savedBy 2 = .ok (.invokestatic 41, 3) := by decide +kernel
theorem dX0_savedBy_5 : decode cX0_savedBy 5 = .ok (.istore_n 3, 1) := by decide +kernel
theorem dX0_savedBy_6 : decode cX0_savedBy 6 = .ok (.aload_n 2, 1) := by decide +kernel
theorem dX0_savedBy_7 : decode cX0_savedBy 7 = .ok (.ifnonnull 28, 3) := by decide +kernel
theorem dX0_savedBy_10 : decode cX0_savedBy 10 = .ok (.aload_n 0, 1) := by decide +kernel
theorem dX0_savedBy_11 : decode cX0_savedBy 11 = .ok (.aload_n 1, 1) := by decide +kernel
theorem dX0_savedBy_12 : decode cX0_savedBy 12 = .ok (.invokestatic 41, 3) := by decide +kernel
theorem dX0_savedBy_15 : decode cX0_savedBy 15 = .ok (.istore 4, 2) := by decide +kernel
theorem dX0_savedBy_17 : decode cX0_savedBy 17 = .ok (.iload 4, 2) := by decide +kernel
theorem dX0_savedBy_19 : decode cX0_savedBy 19 = .ok (.ifCond .le 14, 3) := by decide +kernel
theorem dX0_savedBy_22 : decode cX0_savedBy 22 = .ok (.iload_n 3, 1) := by decide +kernel
theorem dX0_savedBy_23 : decode cX0_savedBy 23 = .ok (.ifCond .le 10, 3) := by decide +kernel
theorem dX0_savedBy_26 : decode cX0_savedBy 26 = .ok (.iload 4, 2) := by decide +kernel
theorem dX0_savedBy_28 : decode cX0_savedBy 28 = .ok (.iload_n 3, 1) := by decide +kernel
theorem dX0_savedBy_29 : decode cX0_savedBy 29 = .ok (.iadd, 1) := by decide +kernel
theorem dX0_savedBy_30 : decode cX0_savedBy 30 = .ok (.goto 4, 3) := by decide +kernel
theorem dX0_savedBy_33 : decode cX0_savedBy 33 = .ok (.iconst 0, 1) := by decide +kernel
theorem dX0_savedBy_34 : decode cX0_savedBy 34 = .ok (.ireturn, 1) := by decide +kernel
theorem dX0_savedBy_35 : decode cX0_savedBy 35 = .ok (.aload_n 2, 1) := by decide +kernel
theorem dX0_savedBy_36 : decode cX0_savedBy 36 = .ok (.aload_n 1, 1) := by decide +kernel
theorem dX0_savedBy_37 : decode cX0_savedBy 37 = .ok (.invokestatic 41, 3) := by decide +kernel
theorem dX0_savedBy_40 : decode cX0_savedBy 40 = .ok (.istore 4, 2) := by decide +kernel
theorem dX0_savedBy_42 : decode cX0_savedBy 42 = .ok (.aload_n 0, 1) := by decide +kernel
theorem dX0_savedBy_43 : decode cX0_savedBy 43 = .ok (.aload_n 2, 1) := by decide +kernel
theorem dX0_savedBy_44 : decode cX0_savedBy 44 = .ok (.invokestatic 41, 3) := by decide +kernel
theorem dX0_savedBy_47 : decode cX0_savedBy 47 = .ok (.istore 5, 2) := by decide +kernel
theorem dX0_savedBy_49 : decode cX0_savedBy 49 = .ok (.iload 5, 2) := by decide +kernel
theorem dX0_savedBy_51 : decode cX0_savedBy 51 = .ok (.ifCond .le 22, 3) := by decide +kernel
theorem dX0_savedBy_54 : decode cX0_savedBy 54 = .ok (.iload_n 3, 1) := by decide +kernel
theorem dX0_savedBy_55 : decode cX0_savedBy 55 = .ok (.ifCond .le 18, 3) := by decide +kernel
theorem dX0_savedBy_58 : decode cX0_savedBy 58 = .ok (.iload 4, 2) := by decide +kernel
theorem dX0_savedBy_60 : decode cX0_savedBy 60 = .ok (.ifCond .le 13, 3) := by decide +kernel
theorem dX0_savedBy_63 : decode cX0_savedBy 63 = .ok (.iload 5, 2) := by decide +kernel
theorem dX0_savedBy_65 : decode cX0_savedBy 65 = .ok (.iload_n 3, 1) := by decide +kernel
theorem dX0_savedBy_66 : decode cX0_savedBy 66 = .ok (.iadd, 1) := by decide +kernel
theorem dX0_savedBy_67 : decode cX0_savedBy 67 = .ok (.iload 4, 2) := by decide +kernel
theorem dX0_savedBy_69 : decode cX0_savedBy 69 = .ok (.iadd, 1) := by decide +kernel
theorem dX0_savedBy_70 : decode cX0_savedBy 70 = .ok (.goto 4, 3) := by decide +kernel
theorem dX0_savedBy_73 : decode cX0_savedBy 73 = .ok (.iconst 0, 1) := by decide +kernel
theorem dX0_savedBy_74 : decode cX0_savedBy 74 = .ok (.ireturn, 1) := by decide +kernel
theorem dX0_gain_0 : decode cX0_gain 0 = .ok (.aload_n 0, 1) := by decide +kernel
theorem dX0_gain_1 : decode cX0_gain 1 = .ok (.getfield 45, 3) := by decide +kernel
theorem dX0_gain_4 : decode cX0_gain 4 = .ok (.iconst 1, 1) := by decide +kernel
theorem dX0_gain_5 : decode cX0_gain 5 = .ok (.if_icmp .lt 11, 3) := by decide +kernel
theorem dX0_gain_8 : decode cX0_gain 8 = .ok (.aload_n 1, 1) := by decide +kernel
theorem dX0_gain_9 : decode cX0_gain 9 = .ok (.getfield 45, 3) := by decide +kernel
theorem dX0_gain_12 : decode cX0_gain 12 = .ok (.iconst 1, 1) := by decide +kernel
theorem dX0_gain_13 : decode cX0_gain 13 = .ok (.if_icmp .ge 5, 3) := by decide +kernel
theorem dX0_gain_16 : decode cX0_gain 16 = .ok (.iconst 0, 1) := by decide +kernel
theorem dX0_gain_17 : decode cX0_gain 17 = .ok (.ireturn, 1) := by decide +kernel
theorem dX0_gain_18 : decode cX0_gain 18 = .ok (.aload_n 0, 1) := by decide +kernel
theorem dX0_gain_19 : decode cX0_gain 19 = .ok (.getfield 50, 3) := by decide +kernel
theorem dX0_gain_22 : decode cX0_gain 22 = .ok (.aload_n 0, 1) := by decide +kernel
theorem dX0_gain_23 : decode cX0_gain 23 = .ok (.getfield 45, 3) := by decide +kernel
theorem dX0_gain_26 : decode cX0_gain 26 = .ok (.iconst 1, 1) := by decide +kernel
theorem dX0_gain_27 : decode cX0_gain 27 = .ok (.isub, 1) := by decide +kernel
theorem dX0_gain_28 : decode cX0_gain 28 = .ok (.iaload, 1) := by decide +kernel
theorem dX0_gain_29 : decode cX0_gain 29 = .ok (.istore_n 2, 1) := by decide +kernel
theorem dX0_gain_30 : decode cX0_gain 30 = .ok (.aload_n 1, 1) := by decide +kernel
theorem dX0_gain_31 : decode cX0_gain 31 = .ok (.getfield 50, 3) := by decide +kernel
theorem dX0_gain_34 : decode cX0_gain 34 = .ok (.aload_n 1, 1) := by decide +kernel
theorem dX0_gain_35 : decode cX0_gain 35 = .ok (.getfield 45, 3) := by decide +kernel
theorem dX0_gain_38 : decode cX0_gain 38 = .ok (.iconst 1, 1) := by decide +kernel
theorem dX0_gain_39 : decode cX0_gain 39 = .ok (.isub, 1) := by decide +kernel
theorem dX0_gain_40 : decode cX0_gain 40 = .ok (.iaload, 1) := by decide +kernel
theorem dX0_gain_41 : decode cX0_gain 41 = .ok (.istore_n 3, 1) := by decide +kernel
theorem dX0_gain_42 : decode cX0_gain 42 = .ok (.aload_n 0, 1) := by decide +kernel
theorem dX0_gain_43 : decode cX0_gain 43 = .ok (.getfield 53, 3) := by decide +kernel
theorem dX0_gain_46 : decode cX0_gain 46 = .ok (.iload_n 2, 1) := by decide +kernel
theorem dX0_gain_47 : decode cX0_gain 47 = .ok (.iaload, 1) := by decide +kernel
theorem dX0_gain_48 : decode cX0_gain 48 = .ok (.aload_n 0, 1) := by decide +kernel
theorem dX0_gain_49 : decode cX0_gain 49 = .ok (.getfield 53, 3) := by decide +kernel
theorem dX0_gain_52 : decode cX0_gain 52 = .ok (.iload_n 3, 1) := by decide +kernel
theorem dX0_gain_53 : decode cX0_gain 53 = .ok (.iaload, 1) := by decide +kernel
theorem dX0_gain_54 : decode cX0_gain 54 = .ok (.isub, 1) := by decide +kernel
theorem dX0_gain_55 : decode cX0_gain 55 = .ok (.ireturn, 1) := by decide +kernel
theorem dX1_init_0 : decode cX1_init 0 = .ok (.aload_n 0, 1) := by decide +kernel
theorem dX1_init_1 : decode cX1_init 1 = .ok (.invokespecial 3, 3) := by decide +kernel
theorem dX1_init_4 : decode cX1_init 4 = .ok (.aload_n 0, 1) := by decide +kernel
theorem dX1_init_5 : decode cX1_init 5 = .ok (.bipush 8, 2) := by decide +kernel
theorem dX1_init_7 : decode cX1_init 7 = .ok (.newarray .int, 2) := by decide +kernel
theorem dX1_init_9 : decode cX1_init 9 = .ok (.putfield 9, 3) := by decide +kernel
theorem dX1_init_12 : decode cX1_init 12 = .ok (.aload_n 0, 1) := by decide +kernel
theorem dX1_init_13 : decode cX1_init 13 = .ok (.bipush 8, 2) := by decide +kernel
theorem dX1_init_15 : decode cX1_init 15 = .ok (.newarray .int, 2) := by decide +kernel
theorem dX1_init_17 : decode cX1_init 17 = .ok (.putfield 15, 3) := by decide +kernel
theorem dX1_init_20 : decode cX1_init 20 = .ok (.aload_n 0, 1) := by decide +kernel
theorem dX1_init_21 : decode cX1_init 21 = .ok (.bipush 8, 2) := by decide +kernel
theorem dX1_init_23 : decode cX1_init 23 = .ok (.newarray .int, 2) := by decide +kernel
theorem dX1_init_25 : decode cX1_init 25 = .ok (.putfield 18, 3) := by decide +kernel
theorem dX1_init_28 : decode cX1_init 28 = .ok (.aload_n 0, 1) := by decide +kernel
theorem dX1_init_29 : decode cX1_init 29 = .ok (.bipush 8, 2) := by decide +kernel
theorem dX1_init_31 : decode cX1_init 31 = .ok (.newarray .int, 2) := by decide +kernel
theorem dX1_init_33 : decode cX1_init 33 = .ok (.putfield 21, 3) := by decide +kernel
theorem dX1_init_36 : decode cX1_init 36 = .ok (.aload_n 0, 1) := by decide +kernel
theorem dX1_init_37 : decode cX1_init 37 = .ok (.iconst 5, 1) := by decide +kernel
theorem dX1_init_38 : decode cX1_init 38 = .ok (.newarray .int, 2) := by decide +kernel
theorem dX1_init_40 : decode cX1_init 40 = .ok (.putfield 24, 3) := by decide +kernel
theorem dX1_init_43 : decode cX1_init 43 = .ok (.return_, 1) := by decide +kernel
theorem dX1_begin_0 : decode cX1_begin 0 = .ok (.aload_n 0, 1) := by decide +kernel
theorem dX1_begin_1 : decode cX1_begin 1 = .ok (.iload_n 1, 1) := by decide +kernel
theorem dX1_begin_2 : decode cX1_begin 2 = .ok (.putfield 27, 3) := by decide +kernel
theorem dX1_begin_5 : decode cX1_begin 5 = .ok (.aload_n 0, 1) := by decide +kernel
theorem dX1_begin_6 : decode cX1_begin 6 = .ok (.iload_n 2, 1) := by decide +kernel
theorem dX1_begin_7 : decode cX1_begin 7 = .ok (.putfield 31, 3) := by decide +kernel
theorem dX1_begin_10 : decode cX1_begin 10 = .ok (.aload_n 0, 1) := by decide +kernel
theorem dX1_begin_11 : decode cX1_begin 11 = .ok (.iload_n 3, 1) := by decide +kernel
theorem dX1_begin_12 : decode cX1_begin 12 = .ok (.putfield 34, 3) := by decide +kernel
theorem dX1_begin_15 : decode cX1_begin 15 = .ok (.aload_n 0, 1) := by decide +kernel
theorem dX1_begin_16 : decode cX1_begin 16 = .ok (.bipush (-4), 2) := by decide +kernel
theorem dX1_begin_18 : decode cX1_begin 18 = .ok (.putfield 37, 3) := by decide +kernel
theorem dX1_begin_21 : decode cX1_begin 21 = .ok (.aload_n 0, 1) := by decide +kernel
theorem dX1_begin_22 : decode cX1_begin 22 = .ok (.iconst 0, 1) := by decide +kernel
theorem dX1_begin_23 : decode cX1_begin 23 = .ok (.putfield 40, 3) := by decide +kernel
theorem dX1_begin_26 : decode cX1_begin 26 = .ok (.aload_n 0, 1) := by decide +kernel
theorem dX1_begin_27 : decode cX1_begin 27 = .ok (.getfield 24, 3) := by decide +kernel
theorem dX1_begin_30 : decode cX1_begin 30 = .ok (.iconst 0, 1) := by decide +kernel
theorem dX1_begin_31 : decode cX1_begin 31 = .ok (.invokestatic 43, 3) := by decide +kernel
theorem dX1_begin_34 : decode cX1_begin 34 = .ok (.return_, 1) := by decide +kernel
theorem dX1_becomeLike_0 : decode cX1_becomeLike 0 = .ok (.aload_n 0, 1) := by decide +kernel
theorem dX1_becomeLike_1 : decode cX1_becomeLike 1 = .ok (.aload_n 1, 1) := by decide +kernel
theorem dX1_becomeLike_2 : decode cX1_becomeLike 2 = .ok (.getfield 27, 3) := by decide +kernel
theorem dX1_becomeLike_5 : decode cX1_becomeLike 5 = .ok (.aload_n 1, 1) := by decide +kernel
theorem dX1_becomeLike_6 : decode cX1_becomeLike 6 = .ok (.getfield 31, 3) := by decide +kernel
theorem dX1_becomeLike_9 : decode cX1_becomeLike 9 = .ok (.aload_n 1, 1) := by decide +kernel
theorem dX1_becomeLike_10 : decode cX1_becomeLike 10 = .ok (.getfield 34, 3) := by decide +kernel
theorem dX1_becomeLike_13 : decode cX1_becomeLike 13 = .ok (.invokevirtual 49, 3) := by decide +kernel
theorem dX1_becomeLike_16 : decode cX1_becomeLike 16 = .ok (.aload_n 0, 1) := by decide +kernel
theorem dX1_becomeLike_17 : decode cX1_becomeLike 17 = .ok (.aload_n 1, 1) := by decide +kernel
theorem dX1_becomeLike_18 : decode cX1_becomeLike 18 = .ok (.getfield 37, 3) := by decide +kernel
theorem dX1_becomeLike_21 : decode cX1_becomeLike 21 = .ok (.putfield 37, 3) := by decide +kernel
theorem dX1_becomeLike_24 : decode cX1_becomeLike 24 = .ok (.aload_n 1, 1) := by decide +kernel
theorem dX1_becomeLike_25 : decode cX1_becomeLike 25 = .ok (.getfield 24, 3) := by decide +kernel
theorem dX1_becomeLike_28 : decode cX1_becomeLike 28 = .ok (.iconst 0, 1) := by decide +kernel
theorem dX1_becomeLike_29 : decode cX1_becomeLike 29 = .ok (.aload_n 0, 1) := by decide +kernel
theorem dX1_becomeLike_30 : decode cX1_becomeLike 30 = .ok (.getfield 24, 3) := by decide +kernel
theorem dX1_becomeLike_33 : decode cX1_becomeLike 33 = .ok (.iconst 0, 1) := by decide +kernel
theorem dX1_becomeLike_34 : decode cX1_becomeLike 34 = .ok (.iconst 5, 1) := by decide +kernel
theorem dX1_becomeLike_35 : decode cX1_becomeLike 35 = .ok (.invokestatic 53, 3) := by decide +kernel
theorem dX1_becomeLike_38 : decode cX1_becomeLike 38 = .ok (.aload_n 0, 1) := by decide +kernel
theorem dX1_becomeLike_39 : decode cX1_becomeLike 39 = .ok (.aload_n 1, 1) := by decide +kernel
theorem dX1_becomeLike_40 : decode cX1_becomeLike 40 = .ok (.invokevirtual 59, 3) := by decide +kernel
theorem dX1_becomeLike_43 : decode cX1_becomeLike 43 = .ok (.return_, 1) := by decide +kernel
theorem dX1_wearAs_0 : decode cX1_wearAs 0 = .ok (.aload_n 0, 1) := by decide +kernel
theorem dX1_wearAs_1 : decode cX1_wearAs 1 = .ok (.aload_n 1, 1) := by decide +kernel
theorem dX1_wearAs_2 : decode cX1_wearAs 2 = .ok (.getfield 40, 3) := by decide +kernel
theorem dX1_wearAs_5 : decode cX1_wearAs 5 = .ok (.putfield 40, 3) := by decide +kernel
theorem dX1_wearAs_8 : decode cX1_wearAs 8 = .ok (.aload_n 1, 1) := by decide +kernel
theorem dX1_wearAs_9 : decode cX1_wearAs 9 = .ok (.getfield 9, 3) := by decide +kernel
theorem dX1_wearAs_12 : decode cX1_wearAs 12 = .ok (.iconst 0, 1) := by decide +kernel
theorem dX1_wearAs_13 : decode cX1_wearAs 13 = .ok (.aload_n 0, 1) := by decide +kernel
theorem dX1_wearAs_14 : decode cX1_wearAs 14 = .ok (.getfield 9, 3) := by decide +kernel
theorem dX1_wearAs_17 : decode cX1_wearAs 17 = .ok (.iconst 0, 1) := by decide +kernel
theorem dX1_wearAs_18 : decode cX1_wearAs 18 = .ok (.bipush 8, 2) := by decide +kernel
theorem dX1_wearAs_20 : decode cX1_wearAs 20 = .ok (.invokestatic 53, 3) := by decide +kernel
theorem dX1_wearAs_23 : decode cX1_wearAs 23 = .ok (.aload_n 1, 1) := by decide +kernel
theorem dX1_wearAs_24 : decode cX1_wearAs 24 = .ok (.getfield 15, 3) := by decide +kernel
theorem dX1_wearAs_27 : decode cX1_wearAs 27 = .ok (.iconst 0, 1) := by decide +kernel
theorem dX1_wearAs_28 : decode cX1_wearAs 28 = .ok (.aload_n 0, 1) := by decide +kernel
theorem dX1_wearAs_29 : decode cX1_wearAs 29 = .ok (.getfield 15, 3) := by decide +kernel
theorem dX1_wearAs_32 : decode cX1_wearAs 32 = .ok (.iconst 0, 1) := by decide +kernel
theorem dX1_wearAs_33 : decode cX1_wearAs 33 = .ok (.bipush 8, 2) := by decide +kernel
theorem dX1_wearAs_35 : decode cX1_wearAs 35 = .ok (.invokestatic 53, 3) := by decide +kernel
theorem dX1_wearAs_38 : decode cX1_wearAs 38 = .ok (.aload_n 1, 1) := by decide +kernel
theorem dX1_wearAs_39 : decode cX1_wearAs 39 = .ok (.getfield 18, 3) := by decide +kernel
theorem dX1_wearAs_42 : decode cX1_wearAs 42 = .ok (.iconst 0, 1) := by decide +kernel
theorem dX1_wearAs_43 : decode cX1_wearAs 43 = .ok (.aload_n 0, 1) := by decide +kernel
theorem dX1_wearAs_44 : decode cX1_wearAs 44 = .ok (.getfield 18, 3) := by decide +kernel
theorem dX1_wearAs_47 : decode cX1_wearAs 47 = .ok (.iconst 0, 1) := by decide +kernel
theorem dX1_wearAs_48 : decode cX1_wearAs 48 = .ok (.bipush 8, 2) := by decide +kernel
theorem dX1_wearAs_50 : decode cX1_wearAs 50 = .ok (.invokestatic 53, 3) := by decide +kernel
theorem dX1_wearAs_53 : decode cX1_wearAs 53 = .ok (.aload_n 1, 1) := by decide +kernel
theorem dX1_wearAs_54 : decode cX1_wearAs 54 = .ok (.getfield 21, 3) := by decide +kernel
theorem dX1_wearAs_57 : decode cX1_wearAs 57 = .ok (.iconst 0, 1) := by decide +kernel
theorem dX1_wearAs_58 : decode cX1_wearAs 58 = .ok (.aload_n 0, 1) := by decide +kernel
theorem dX1_wearAs_59 : decode cX1_wearAs 59 = .ok (.getfield 21, 3) := by decide +kernel
theorem dX1_wearAs_62 : decode cX1_wearAs 62 = .ok (.iconst 0, 1) := by decide +kernel
theorem dX1_wearAs_63 : decode cX1_wearAs 63 = .ok (.bipush 8, 2) := by decide +kernel
theorem dX1_wearAs_65 : decode cX1_wearAs 65 = .ok (.invokestatic 53, 3) := by decide +kernel
theorem dX1_wearAs_68 : decode cX1_wearAs 68 = .ok (.return_, 1) := by decide +kernel
theorem dX1_wornSet_0 : decode cX1_wornSet 0 = .ok (.iconst 1, 1) := by decide +kernel
theorem dX1_wornSet_1 : decode cX1_wornSet 1 = .ok (.aload_n 0, 1) := by decide +kernel
theorem dX1_wornSet_2 : decode cX1_wornSet 2 = .ok (.getfield 40, 3) := by decide +kernel
theorem dX1_wornSet_5 : decode cX1_wornSet 5 = .ok (.ishl, 1) := by decide +kernel
theorem dX1_wornSet_6 : decode cX1_wornSet 6 = .ok (.iconst 1, 1) := by decide +kernel
theorem dX1_wornSet_7 : decode cX1_wornSet 7 = .ok (.isub, 1) := by decide +kernel
theorem dX1_wornSet_8 : decode cX1_wornSet 8 = .ok (.ireturn, 1) := by decide +kernel
theorem dX1_isBetween_0 : decode cX1_isBetween 0 = .ok (.iload_n 1, 1) := by decide +kernel
theorem dX1_isBetween_1 : decode cX1_isBetween 1 = .ok (.ifCond .le 17, 3) := by decide +kernel
theorem dX1_isBetween_4 : decode cX1_isBetween 4 = .ok (.iload_n 1, 1) := by decide +kernel
theorem dX1_isBetween_5 : decode cX1_isBetween 5 = .ok (.aload_n 0, 1) := by decide +kernel
theorem dX1_isBetween_6 : decode cX1_isBetween 6 = .ok (.getfield 40, 3) := by decide +kernel
theorem dX1_isBetween_9 : decode cX1_isBetween 9 = .ok (.iconst 1, 1) := by decide +kernel
theorem dX1_isBetween_10 : decode cX1_isBetween 10 = .ok (.isub, 1) := by decide +kernel
theorem dX1_isBetween_11 : decode cX1_isBetween 11 = .ok (.if_icmp .ge 7, 3) := by decide +kernel
theorem dX1_isBetween_14 : decode cX1_isBetween 14 = .ok (.iconst 1, 1) := by decide +kernel
theorem dX1_isBetween_15 : decode cX1_isBetween 15 = .ok (.goto 4, 3) := by decide +kernel
theorem dX1_isBetween_18 : decode cX1_isBetween 18 = .ok (.iconst 0, 1) := by decide +kernel
theorem dX1_isBetween_19 : decode cX1_isBetween 19 = .ok (.ireturn, 1) := by decide +kernel
theorem dX1_thickTogether_0 : decode cX1_thickTogether 0 = .ok (.iconst 0, 1) := by decide +kernel
theorem dX1_thickTogether_1 : decode cX1_thickTogether 1 = .ok (.istore_n 1, 1) := by decide +kernel
theorem dX1_thickTogether_2 : decode cX1_thickTogether 2 = .ok (.iconst 0, 1) := by decide +kernel
theorem dX1_thickTogether_3 : decode cX1_thickTogether 3 = .ok (.istore_n 2, 1) := by decide +kernel
theorem dX1_thickTogether_4 : decode cX1_thickTogether 4 = .ok (.iload_n 2, 1) := by decide +kernel
theorem dX1_thickTogether_5 : decode cX1_thickTogether 5 = .ok (.aload_n 0, 1) := by decide +kernel
theorem dX1_thickTogether_6 : decode cX1_thickTogether 6 = .ok (.getfield 40, 3) := by decide +kernel
theorem dX1_thickTogether_9 : decode cX1_thickTogether 9 = .ok (.if_icmp .ge 18, 3) := by decide +kernel
theorem dX1_thickTogether_12 : decode cX1_thickTogether 12 = .ok (.iload_n 1, 1) := by decide +kernel
theorem dX1_thickTogether_13 : decode cX1_thickTogether 13 = .ok (.aload_n 0, 1) := by decide +kernel
theorem dX1_thickTogether_14 : decode cX1_thickTogether 14 = .ok (.getfield 21, 3) := by decide +kernel
theorem dX1_thickTogether_17 : decode cX1_thickTogether 17 = .ok (.iload_n 2, 1) := by decide +kernel
theorem dX1_thickTogether_18 : decode cX1_thickTogether 18 = .ok (.iaload, 1) := by decide +kernel
theorem dX1_thickTogether_19 : decode cX1_thickTogether 19 = .ok (.iadd, 1) := by decide +kernel
theorem dX1_thickTogether_20 : decode cX1_thickTogether 20 = .ok (.istore_n 1, 1) := by decide +kernel
theorem dX1_thickTogether_21 : decode cX1_thickTogether 21 = .ok (.iinc 2 1, 3) := by decide +kernel
theorem dX1_thickTogether_24 : decode cX1_thickTogether 24 = .ok (.goto (-20), 3) := by decide +kernel
theorem dX1_thickTogether_27 : decode cX1_thickTogether 27 = .ok (.iload_n 1, 1) := by decide +kernel
theorem dX1_thickTogether_28 : decode cX1_thickTogether 28 = .ok (.ireturn, 1) := by decide +kernel
theorem dX1_amountsTogether_0 : decode cX1_amountsTogether 0 = .ok (.iconst 0, 1) := by decide +kernel
theorem dX1_amountsTogether_1 : decode cX1_amountsTogether 1 = .ok (.istore_n 1, 1) := by decide +kernel
theorem dX1_amountsTogether_2 : decode cX1_amountsTogether 2 = .ok (.iconst 0, 1) := by decide +kernel
theorem dX1_amountsTogether_3 : decode cX1_amountsTogether 3 = .ok (.istore_n 2, 1) := by decide +kernel
theorem dX1_amountsTogether_4 : decode cX1_amountsTogether 4 = .ok (.iload_n 2, 1) := by decide +kernel
theorem dX1_amountsTogether_5 : decode cX1_amountsTogether 5 = .ok (.aload_n 0, 1) := by decide +kernel
theorem dX1_amountsTogether_6 : decode cX1_amountsTogether 6 = .ok (.getfield 40, 3) := by decide +kernel
theorem dX1_amountsTogether_9 : decode cX1_amountsTogether 9 = .ok (.if_icmp .ge 18, 3) := by decide +kernel
theorem dX1_amountsTogether_12 : decode cX1_amountsTogether 12 = .ok (.iload_n 1, 1) := by decide +kernel
theorem dX1_amountsTogether_13 : decode cX1_amountsTogether 13 = .ok (.aload_n 0, 1) := by decide +kernel
theorem dX1_amountsTogether_14 : decode cX1_amountsTogether 14 = .ok (.getfield 15, 3) := by decide +kernel
theorem dX1_amountsTogether_17 : decode cX1_amountsTogether 17 = .ok (.iload_n 2, 1) := by decide +kernel
theorem dX1_amountsTogether_18 : decode cX1_amountsTogether 18 = .ok (.iaload, 1) := by decide +kernel
theorem dX1_amountsTogether_19 : decode cX1_amountsTogether 19 = .ok (.iadd, 1) := by decide +kernel
theorem dX1_amountsTogether_20 : decode cX1_amountsTogether 20 = .ok (.istore_n 1, 1) := by decide +kernel
theorem dX1_amountsTogether_21 : decode cX1_amountsTogether 21 = .ok (.iinc 2 1, 3) := by decide +kernel
theorem dX1_amountsTogether_24 : decode cX1_amountsTogether 24 = .ok (.goto (-20), 3) := by decide +kernel
theorem dX1_amountsTogether_27 : decode cX1_amountsTogether 27 = .ok (.iload_n 1, 1) := by decide +kernel
theorem dX1_amountsTogether_28 : decode cX1_amountsTogether 28 = .ok (.ireturn, 1) := by decide +kernel
theorem dX1_owedTo_0 : decode cX1_owedTo 0 = .ok (.iconst 0, 1) := by decide +kernel
theorem dX1_owedTo_1 : decode cX1_owedTo 1 = .ok (.istore_n 2, 1) := by decide +kernel
theorem dX1_owedTo_2 : decode cX1_owedTo 2 = .ok (.iconst 0, 1) := by decide +kernel
theorem dX1_owedTo_3 : decode cX1_owedTo 3 = .ok (.istore_n 3, 1) := by decide +kernel
theorem dX1_owedTo_4 : decode cX1_owedTo 4 = .ok (.iload_n 3, 1) := by decide +kernel
theorem dX1_owedTo_5 : decode cX1_owedTo 5 = .ok (.aload_n 0, 1) := by decide +kernel
theorem dX1_owedTo_6 : decode cX1_owedTo 6 = .ok (.getfield 40, 3) := by decide +kernel
theorem dX1_owedTo_9 : decode cX1_owedTo 9 = .ok (.if_icmp .ge 28, 3) := by decide +kernel
theorem dX1_owedTo_12 : decode cX1_owedTo 12 = .ok (.aload_n 0, 1) := by decide +kernel
theorem dX1_owedTo_13 : decode cX1_owedTo 13 = .ok (.getfield 9, 3) := by decide +kernel
theorem dX1_owedTo_16 : decode cX1_owedTo 16 = .ok (.iload_n 3, 1) := by decide +kernel
theorem dX1_owedTo_17 : decode cX1_owedTo 17 = .ok (.iaload, 1) := by decide +kernel
theorem dX1_owedTo_18 : decode cX1_owedTo 18 = .ok (.iload_n 1, 1) := by decide +kernel
theorem dX1_owedTo_19 : decode cX1_owedTo 19 = .ok (.if_icmp .ne 12, 3) := by decide +kernel
theorem dX1_owedTo_22 : decode cX1_owedTo 22 = .ok (.iload_n 2, 1) := by decide +kernel
theorem dX1_owedTo_23 : decode cX1_owedTo 23 = .ok (.aload_n 0, 1) := by decide +kernel
theorem dX1_owedTo_24 : decode cX1_owedTo 24 = .ok (.getfield 15, 3) := by decide +kernel
theorem dX1_owedTo_27 : decode cX1_owedTo 27 = .ok (.iload_n 3, 1) := by decide +kernel
theorem dX1_owedTo_28 : decode cX1_owedTo 28 = .ok (.iaload, 1) := by decide +kernel
theorem dX1_owedTo_29 : decode cX1_owedTo 29 = .ok (.iadd, 1) := by decide +kernel
theorem dX1_owedTo_30 : decode cX1_owedTo 30 = .ok (.istore_n 2, 1) := by decide +kernel
theorem dX1_owedTo_31 : decode cX1_owedTo 31 = .ok (.iinc 3 1, 3) := by decide +kernel
theorem dX1_owedTo_34 : decode cX1_owedTo 34 = .ok (.goto (-30), 3) := by decide +kernel
theorem dX1_owedTo_37 : decode cX1_owedTo 37 = .ok (.iload_n 2, 1) := by decide +kernel
theorem dX1_owedTo_38 : decode cX1_owedTo 38 = .ok (.ireturn, 1) := by decide +kernel
theorem dX1_putOn_0 : decode cX1_putOn 0 = .ok (.aload_n 0, 1) := by decide +kernel
theorem dX1_putOn_1 : decode cX1_putOn 1 = .ok (.getfield 40, 3) := by decide +kernel
theorem dX1_putOn_4 : decode cX1_putOn 4 = .ok (.bipush 8, 2) := by decide +kernel
theorem dX1_putOn_6 : decode cX1_putOn 6 = .ok (.if_icmp .ge 54, 3) := by decide +kernel
theorem dX1_putOn_9 : decode cX1_putOn 9 = .ok (.aload_n 0, 1) := by decide +kernel
theorem dX1_putOn_10 : decode cX1_putOn 10 = .ok (.getfield 9, 3) := by decide +kernel
theorem dX1_putOn_13 : decode cX1_putOn 13 = .ok (.aload_n 0, 1) := by decide +kernel
theorem dX1_putOn_14 : decode cX1_putOn 14 = .ok (.getfield 40, 3) := by decide +kernel
theorem dX1_putOn_17 : decode cX1_putOn 17 = .ok (.iload_n 1, 1) := by decide +kernel
theorem dX1_putOn_18 : decode cX1_putOn 18 = .ok (.iastore, 1) := by decide +kernel
theorem dX1_putOn_19 : decode cX1_putOn 19 = .ok (.aload_n 0, 1) := by decide +kernel
theorem dX1_putOn_20 : decode cX1_putOn 20 = .ok (.getfield 15, 3) := by decide +kernel
theorem dX1_putOn_23 : decode cX1_putOn 23 = .ok (.aload_n 0, 1) := by decide +kernel
theorem dX1_putOn_24 : decode cX1_putOn 24 = .ok (.getfield 40, 3) := by decide +kernel
theorem dX1_putOn_27 : decode cX1_putOn 27 = .ok (.iload_n 2, 1) := by decide +kernel
theorem dX1_putOn_28 : decode cX1_putOn 28 = .ok (.iastore, 1) := by decide +kernel
theorem dX1_putOn_29 : decode cX1_putOn 29 = .ok (.aload_n 0, 1) := by decide +kernel
theorem dX1_putOn_30 : decode cX1_putOn 30 = .ok (.getfield 18, 3) := by decide +kernel
theorem dX1_putOn_33 : decode cX1_putOn 33 = .ok (.aload_n 0, 1) := by decide +kernel
theorem dX1_putOn_34 : decode cX1_putOn 34 = .ok (.getfield 40, 3) := by decide +kernel
theorem dX1_putOn_37 : decode cX1_putOn 37 = .ok (.iload_n 3, 1) := by decide +kernel
theorem dX1_putOn_38 : decode cX1_putOn 38 = .ok (.iastore, 1) := by decide +kernel
theorem dX1_putOn_39 : decode cX1_putOn 39 = .ok (.aload_n 0, 1) := by decide +kernel
theorem dX1_putOn_40 : decode cX1_putOn 40 = .ok (.getfield 21, 3) := by decide +kernel
theorem dX1_putOn_43 : decode cX1_putOn 43 = .ok (.aload_n 0, 1) := by decide +kernel
theorem dX1_putOn_44 : decode cX1_putOn 44 = .ok (.getfield 40, 3) := by decide +kernel
theorem dX1_putOn_47 : decode cX1_putOn 47 = .ok (.iload 4, 2) := by decide +kernel
theorem dX1_putOn_49 : decode cX1_putOn 49 = .ok (.iastore, 1) := by decide +kernel
theorem dX1_putOn_50 : decode cX1_putOn 50 = .ok (.aload_n 0, 1) := by decide +kernel
theorem dX1_putOn_51 : decode cX1_putOn 51 = .ok (.dup, 1) := by decide +kernel
theorem dX1_putOn_52 : decode cX1_putOn 52 = .ok (.getfield 40, 3) := by decide +kernel
theorem dX1_putOn_55 : decode cX1_putOn 55 = .ok (.iconst 1, 1) := by decide +kernel
theorem dX1_putOn_56 : decode cX1_putOn 56 = .ok (.iadd, 1) := by decide +kernel
theorem dX1_putOn_57 : decode cX1_putOn 57 = .ok (.putfield 40, 3) := by decide +kernel
theorem dX1_putOn_60 : decode cX1_putOn 60 = .ok (.return_, 1) := by decide +kernel
theorem dX1_takeOff_0 : decode cX1_takeOff 0 = .ok (.iload_n 1, 1) := by decide +kernel
theorem dX1_takeOff_1 : decode cX1_takeOff 1 = .ok (.istore_n 2, 1) := by decide +kernel
theorem dX1_takeOff_2 : decode cX1_takeOff 2 = .ok (.iload_n 2, 1) := by decide +kernel
theorem dX1_takeOff_3 : decode cX1_takeOff 3 = .ok (.aload_n 0, 1) := by decide +kernel
theorem dX1_takeOff_4 : decode cX1_takeOff 4 = .ok (.getfield 40, 3) := by decide +kernel
theorem dX1_takeOff_7 : decode cX1_takeOff 7 = .ok (.iconst 1, 1) := by decide +kernel
theorem dX1_takeOff_8 : decode cX1_takeOff 8 = .ok (.isub, 1) := by decide +kernel
theorem dX1_takeOff_9 : decode cX1_takeOff 9 = .ok (.if_icmp .ge 65, 3) := by decide +kernel
theorem dX1_takeOff_12 : decode cX1_takeOff 12 = .ok (.aload_n 0, 1) := by decide +kernel
theorem dX1_takeOff_13 : decode cX1_takeOff 13 = .ok (.getfield 9, 3) := by decide +kernel
theorem dX1_takeOff_16 : decode cX1_takeOff 16 = .ok (.iload_n 2, 1) := by decide +kernel
theorem dX1_takeOff_17 : decode cX1_takeOff 17 = .ok (.aload_n 0, 1) := by decide +kernel
theorem dX1_takeOff_18 : decode cX1_takeOff 18 = .ok (.getfield 9, 3) := by decide +kernel
theorem dX1_takeOff_21 : decode cX1_takeOff 21 = .ok (.iload_n 2, 1) := by decide +kernel
theorem dX1_takeOff_22 : decode cX1_takeOff 22 = .ok (.iconst 1, 1) := by decide +kernel
theorem dX1_takeOff_23 : decode cX1_takeOff 23 = .ok (.iadd, 1) := by decide +kernel
theorem dX1_takeOff_24 : decode cX1_takeOff 24 = .ok (.iaload, 1) := by decide +kernel
theorem dX1_takeOff_25 : decode cX1_takeOff 25 = .ok (.iastore, 1) := by decide +kernel
theorem dX1_takeOff_26 : decode cX1_takeOff 26 = .ok (.aload_n 0, 1) := by decide +kernel
theorem dX1_takeOff_27 : decode cX1_takeOff 27 = .ok (.getfield 15, 3) := by decide +kernel
theorem dX1_takeOff_30 : decode cX1_takeOff 30 = .ok (.iload_n 2, 1) := by decide +kernel
theorem dX1_takeOff_31 : decode cX1_takeOff 31 = .ok (.aload_n 0, 1) := by decide +kernel
theorem dX1_takeOff_32 : decode cX1_takeOff 32 = .ok (.getfield 15, 3) := by decide +kernel
theorem dX1_takeOff_35 : decode cX1_takeOff 35 = .ok (.iload_n 2, 1) := by decide +kernel
theorem dX1_takeOff_36 : decode cX1_takeOff 36 = .ok (.iconst 1, 1) := by decide +kernel
theorem dX1_takeOff_37 : decode cX1_takeOff 37 = .ok (.iadd, 1) := by decide +kernel
theorem dX1_takeOff_38 : decode cX1_takeOff 38 = .ok (.iaload, 1) := by decide +kernel
theorem dX1_takeOff_39 : decode cX1_takeOff 39 = .ok (.iastore, 1) := by decide +kernel
theorem dX1_takeOff_40 : decode cX1_takeOff 40 = .ok (.aload_n 0, 1) := by decide +kernel
theorem dX1_takeOff_41 : decode cX1_takeOff 41 = .ok (.getfield 18, 3) := by decide +kernel
theorem dX1_takeOff_44 : decode cX1_takeOff 44 = .ok (.iload_n 2, 1) := by decide +kernel
theorem dX1_takeOff_45 : decode cX1_takeOff 45 = .ok (.aload_n 0, 1) := by decide +kernel
theorem dX1_takeOff_46 : decode cX1_takeOff 46 = .ok (.getfield 18, 3) := by decide +kernel
theorem dX1_takeOff_49 : decode cX1_takeOff 49 = .ok (.iload_n 2, 1) := by decide +kernel
theorem dX1_takeOff_50 : decode cX1_takeOff 50 = .ok (.iconst 1, 1) := by decide +kernel
theorem dX1_takeOff_51 : decode cX1_takeOff 51 = .ok (.iadd, 1) := by decide +kernel
theorem dX1_takeOff_52 : decode cX1_takeOff 52 = .ok (.iaload, 1) := by decide +kernel
theorem dX1_takeOff_53 : decode cX1_takeOff 53 = .ok (.iastore, 1) := by decide +kernel
theorem dX1_takeOff_54 : decode cX1_takeOff 54 = .ok (.aload_n 0, 1) := by decide +kernel
theorem dX1_takeOff_55 : decode cX1_takeOff 55 = .ok (.getfield 21, 3) := by decide +kernel
theorem dX1_takeOff_58 : decode cX1_takeOff 58 = .ok (.iload_n 2, 1) := by decide +kernel
theorem dX1_takeOff_59 : decode cX1_takeOff 59 = .ok (.aload_n 0, 1) := by decide +kernel
theorem dX1_takeOff_60 : decode cX1_takeOff 60 = .ok (.getfield 21, 3) := by decide +kernel
theorem dX1_takeOff_63 : decode cX1_takeOff 63 = .ok (.iload_n 2, 1) := by decide +kernel
theorem dX1_takeOff_64 : decode cX1_takeOff 64 = .ok (.iconst 1, 1) := by decide +kernel
theorem dX1_takeOff_65 : decode cX1_takeOff 65 = .ok (.iadd, 1) := by decide +kernel
theorem dX1_takeOff_66 : decode cX1_takeOff 66 = .ok (.iaload, 1) := by decide +kernel
theorem dX1_takeOff_67 : decode cX1_takeOff 67 = .ok (.iastore, 1) := by decide +kernel
theorem dX1_takeOff_68 : decode cX1_takeOff 68 = .ok (.iinc 2 1, 3) := by decide +kernel
theorem dX1_takeOff_71 : decode cX1_takeOff 71 = .ok (.goto (-69), 3) := by decide +kernel
theorem dX1_takeOff_74 : decode cX1_takeOff 74 = .ok (.aload_n 0, 1) := by decide +kernel
theorem dX1_takeOff_75 : decode cX1_takeOff 75 = .ok (.dup, 1) := by decide +kernel
theorem dX1_takeOff_76 : decode cX1_takeOff 76 = .ok (.getfield 40, 3) := by decide +kernel
theorem dX1_takeOff_79 : decode cX1_takeOff 79 = .ok (.iconst 1, 1) := by decide +kernel
theorem dX1_takeOff_80 : decode cX1_takeOff 80 = .ok (.isub, 1) := by decide +kernel
theorem dX1_takeOff_81 : decode cX1_takeOff 81 = .ok (.putfield 40, 3) := by decide +kernel
theorem dX1_takeOff_84 : decode cX1_takeOff 84 = .ok (.return_, 1) := by decide +kernel
theorem dX1_payOff_0 : decode cX1_payOff 0 = .ok (.aload_n 0, 1) := by decide +kernel
theorem dX1_payOff_1 : decode cX1_payOff 1 = .ok (.dup, 1) := by decide +kernel
theorem dX1_payOff_2 : decode cX1_payOff 2 = .ok (.getfield 27, 3) := by decide +kernel
theorem dX1_payOff_5 : decode cX1_payOff 5 = .ok (.aload_n 0, 1) := by decide +kernel
theorem dX1_payOff_6 : decode cX1_payOff 6 = .ok (.getfield 15, 3) := by decide +kernel
theorem dX1_payOff_9 : decode cX1_payOff 9 = .ok (.iload_n 1, 1) := by decide +kernel
theorem dX1_payOff_10 : decode cX1_payOff 10 = .ok (.iaload, 1) := by decide +kernel
theorem dX1_payOff_11 : decode cX1_payOff 11 = .ok (.isub, 1) := by decide +kernel
theorem dX1_payOff_12 : decode cX1_payOff 12 = .ok (.putfield 27, 3) := by decide +kernel
theorem dX1_payOff_15 : decode cX1_payOff 15 = .ok (.aload_n 0, 1) := by decide +kernel
theorem dX1_payOff_16 : decode cX1_payOff 16 = .ok (.iload_n 1, 1) := by decide +kernel
theorem dX1_payOff_17 : decode cX1_payOff 17 = .ok (.invokevirtual 63, 3) := by decide +kernel
theorem dX1_payOff_20 : decode cX1_payOff 20 = .ok (.return_, 1) := by decide +kernel
theorem dX1_swapOutermost_0 : decode cX1_swapOutermost 0 = .ok (.aload_n 0, 1) := by decide +kernel
theorem dX1_swapOutermost_1 : decode cX1_swapOutermost 1 = .ok (.getfield 9, 3) := by decide +kernel
theorem dX1_swapOutermost_4 : decode cX1_swapOutermost 4 = .ok (.aload_n 0, 1) := by decide +kernel
theorem dX1_swapOutermost_5 : decode cX1_swapOutermost 5 = .ok (.getfield 40, 3) := by decide +kernel
theorem dX1_swapOutermost_8 : decode cX1_swapOutermost 8 = .ok (.iconst 1, 1) := by decide +kernel
theorem dX1_swapOutermost_9 : decode cX1_swapOutermost 9 = .ok (.isub, 1) := by decide +kernel
theorem dX1_swapOutermost_10 : decode cX1_swapOutermost 10 = .ok (.aload_n 1, 1) := by decide +kernel
theorem dX1_swapOutermost_11 : decode cX1_swapOutermost 11 = .ok (.getfield 9, 3) := by decide +kernel
theorem dX1_swapOutermost_14 : decode cX1_swapOutermost 14 = .ok (.aload_n 1, 1) := by decide +kernel
theorem dX1_swapOutermost_15 : decode cX1_swapOutermost 15 = .ok (.getfield 40, 3) := by decide +kernel
theorem dX1_swapOutermost_18 : decode cX1_swapOutermost 18 = .ok (.iconst 1, 1) := by decide +kernel
theorem dX1_swapOutermost_19 : decode cX1_swapOutermost 19 = .ok (.isub, 1) := by decide +kernel
theorem dX1_swapOutermost_20 : decode cX1_swapOutermost 20 = .ok (.invokestatic 67, 3) := by decide +kernel
theorem dX1_swapOutermost_23 : decode cX1_swapOutermost 23 = .ok (.aload_n 0, 1) := by decide +kernel
theorem dX1_swapOutermost_24 : decode cX1_swapOutermost 24 = .ok (.getfield 15, 3) := by decide +kernel
theorem dX1_swapOutermost_27 : decode cX1_swapOutermost 27 = .ok (.aload_n 0, 1) := by decide +kernel
theorem dX1_swapOutermost_28 : decode cX1_swapOutermost 28 = .ok (.getfield 40, 3) := by decide +kernel
theorem dX1_swapOutermost_31 : decode cX1_swapOutermost 31 = .ok (.iconst 1, 1) := by decide +kernel
theorem dX1_swapOutermost_32 : decode cX1_swapOutermost 32 = .ok (.isub, 1) := by decide +kernel
theorem dX1_swapOutermost_33 : decode cX1_swapOutermost 33 = .ok (.aload_n 1, 1) := by decide +kernel
theorem dX1_swapOutermost_34 : decode cX1_swapOutermost 34 = .ok (.getfield 15, 3) := by decide +kernel
theorem dX1_swapOutermost_37 : decode cX1_swapOutermost 37 = .ok (.aload_n 1, 1) := by decide +kernel
theorem dX1_swapOutermost_38 : decode cX1_swapOutermost 38 = .ok (.getfield 40, 3) := by decide +kernel
theorem dX1_swapOutermost_41 : decode cX1_swapOutermost 41 = .ok (.iconst 1, 1) := by decide +kernel
theorem dX1_swapOutermost_42 : decode cX1_swapOutermost 42 = .ok (.isub, 1) := by decide +kernel
theorem dX1_swapOutermost_43 : decode cX1_swapOutermost 43 = .ok (.invokestatic 67, 3) := by decide +kernel
theorem dX1_swapOutermost_46 : decode cX1_swapOutermost 46 = .ok (.aload_n 0, 1) := by decide +kernel
theorem dX1_swapOutermost_47 : decode cX1_swapOutermost 47 = .ok (.getfield 18, 3) := by decide +kernel
theorem dX1_swapOutermost_50 : decode cX1_swapOutermost 50 = .ok (.aload_n 0, 1) := by decide +kernel
theorem dX1_swapOutermost_51 : decode cX1_swapOutermost 51 = .ok (.getfield 40, 3) := by decide +kernel
theorem dX1_swapOutermost_54 : decode cX1_swapOutermost 54 = .ok (.iconst 1, 1) := by decide +kernel
theorem dX1_swapOutermost_55 : decode cX1_swapOutermost 55 = .ok (.isub, 1) := by decide +kernel
theorem dX1_swapOutermost_56 : decode cX1_swapOutermost 56 = .ok (.aload_n 1, 1) := by decide +kernel
theorem dX1_swapOutermost_57 : decode cX1_swapOutermost 57 = .ok (.getfield 18, 3) := by decide +kernel
theorem dX1_swapOutermost_60 : decode cX1_swapOutermost 60 = .ok (.aload_n 1, 1) := by decide +kernel
theorem dX1_swapOutermost_61 : decode cX1_swapOutermost 61 = .ok (.getfield 40, 3) := by decide +kernel
theorem dX1_swapOutermost_64 : decode cX1_swapOutermost 64 = .ok (.iconst 1, 1) := by decide +kernel
theorem dX1_swapOutermost_65 : decode cX1_swapOutermost 65 = .ok (.isub, 1) := by decide +kernel
theorem dX1_swapOutermost_66 : decode cX1_swapOutermost 66 = .ok (.invokestatic 67, 3) := by decide +kernel
theorem dX1_swapOutermost_69 : decode cX1_swapOutermost 69 = .ok (.aload_n 0, 1) := by decide +kernel
theorem dX1_swapOutermost_70 : decode cX1_swapOutermost 70 = .ok (.getfield 21, 3) := by decide +kernel
theorem dX1_swapOutermost_73 : decode cX1_swapOutermost 73 = .ok (.aload_n 0, 1) := by decide +kernel
theorem dX1_swapOutermost_74 : decode cX1_swapOutermost 74 = .ok (.getfield 40, 3) := by decide +kernel
theorem dX1_swapOutermost_77 : decode cX1_swapOutermost 77 = .ok (.iconst 1, 1) := by decide +kernel
theorem dX1_swapOutermost_78 : decode cX1_swapOutermost 78 = .ok (.isub, 1) := by decide +kernel
theorem dX1_swapOutermost_79 : decode cX1_swapOutermost 79 = .ok (.aload_n 1, 1) := by decide +kernel
theorem dX1_swapOutermost_80 : decode cX1_swapOutermost 80 = .ok (.getfield 21, 3) := by decide +kernel
theorem dX1_swapOutermost_83 : decode cX1_swapOutermost 83 = .ok (.aload_n 1, 1) := by decide +kernel
theorem dX1_swapOutermost_84 : decode cX1_swapOutermost 84 = .ok (.getfield 40, 3) := by decide +kernel
theorem dX1_swapOutermost_87 : decode cX1_swapOutermost 87 = .ok (.iconst 1, 1) := by decide +kernel
theorem dX1_swapOutermost_88 : decode cX1_swapOutermost 88 = .ok (.isub, 1) := by decide +kernel
theorem dX1_swapOutermost_89 : decode cX1_swapOutermost 89 = .ok (.invokestatic 67, 3) := by decide +kernel
theorem dX1_swapOutermost_92 : decode cX1_swapOutermost 92 = .ok (.return_, 1) := by decide +kernel
theorem dX1_swapItems_0 : decode cX1_swapItems 0 = .ok (.iload_n 1, 1) := by decide +kernel
theorem dX1_swapItems_1 : decode cX1_swapItems 1 = .ok (.ifCond .lt 23, 3) := by decide +kernel
theorem dX1_swapItems_4 : decode cX1_swapItems 4 = .ok (.iload_n 3, 1) := by decide +kernel
theorem dX1_swapItems_5 : decode cX1_swapItems 5 = .ok (.ifCond .lt 19, 3) := by decide +kernel
theorem dX1_swapItems_8 : decode cX1_swapItems 8 = .ok (.aload_n 0, 1) := by decide +kernel
theorem dX1_swapItems_9 : decode cX1_swapItems 9 = .ok (.iload_n 1, 1) := by decide +kernel
theorem dX1_swapItems_10 : decode cX1_swapItems 10 = .ok (.iaload, 1) := by decide +kernel
theorem dX1_swapItems_11 : decode cX1_swapItems 11 = .ok (.istore 4, 2) := by decide +kernel
theorem dX1_swapItems_13 : decode cX1_swapItems 13 = .ok (.aload_n 0, 1) := by decide +kernel
theorem dX1_swapItems_14 : decode cX1_swapItems 14 = .ok (.iload_n 1, 1) := by decide +kernel
theorem dX1_swapItems_15 : decode cX1_swapItems 15 = .ok (.aload_n 2, 1) := by decide +kernel
theorem dX1_swapItems_16 : decode cX1_swapItems 16 = .ok (.iload_n 3, 1) := by decide +kernel
theorem dX1_swapItems_17 : decode cX1_swapItems 17 = .ok (.iaload, 1) := by decide +kernel
theorem dX1_swapItems_18 : decode cX1_swapItems 18 = .ok (.iastore, 1) := by decide +kernel
theorem dX1_swapItems_19 : decode cX1_swapItems 19 = .ok (.aload_n 2, 1) := by decide +kernel
theorem dX1_swapItems_20 : decode cX1_swapItems 20 = .ok (.iload_n 3, 1) := by decide +kernel
theorem dX1_swapItems_21 : decode cX1_swapItems 21 = .ok (.iload 4, 2) := by decide +kernel
theorem dX1_swapItems_23 : decode cX1_swapItems 23 = .ok (.iastore, 1) := by decide +kernel
theorem dX1_swapItems_24 : decode cX1_swapItems 24 = .ok (.return_, 1) := by decide +kernel
theorem dX1_passNight_0 : decode cX1_passNight 0 = .ok (.iconst 0, 1) := by decide +kernel
theorem dX1_passNight_1 : decode cX1_passNight 1 = .ok (.istore_n 1, 1) := by decide +kernel
theorem dX1_passNight_2 : decode cX1_passNight 2 = .ok (.iconst 0, 1) := by decide +kernel
theorem dX1_passNight_3 : decode cX1_passNight 3 = .ok (.istore_n 2, 1) := by decide +kernel
theorem dX1_passNight_4 : decode cX1_passNight 4 = .ok (.iload_n 2, 1) := by decide +kernel
theorem dX1_passNight_5 : decode cX1_passNight 5 = .ok (.aload_n 0, 1) := by decide +kernel
theorem dX1_passNight_6 : decode cX1_passNight 6 = .ok (.getfield 40, 3) := by decide +kernel
theorem dX1_passNight_9 : decode cX1_passNight 9 = .ok (.if_icmp .ge 44, 3) := by decide +kernel
theorem dX1_passNight_12 : decode cX1_passNight 12 = .ok (.aload_n 0, 1) := by decide +kernel
theorem dX1_passNight_13 : decode cX1_passNight 13 = .ok (.getfield 15, 3) := by decide +kernel
theorem dX1_passNight_16 : decode cX1_passNight 16 = .ok (.iload_n 2, 1) := by decide +kernel
theorem dX1_passNight_17 : decode cX1_passNight 17 = .ok (.aload_n 0, 1) := by decide +kernel
theorem dX1_passNight_18 : decode cX1_passNight 18 = .ok (.getfield 15, 3) := by decide +kernel
theorem dX1_passNight_21 : decode cX1_passNight 21 = .ok (.iload_n 2, 1) := by decide +kernel
theorem dX1_passNight_22 : decode cX1_passNight 22 = .ok (.iaload, 1) := by decide +kernel
theorem dX1_passNight_23 : decode cX1_passNight 23 = .ok (.aload_n 0, 1) := by decide +kernel
theorem dX1_passNight_24 : decode cX1_passNight 24 = .ok (.getfield 18, 3) := by decide +kernel
theorem dX1_passNight_27 : decode cX1_passNight 27 = .ok (.iload_n 2, 1) := by decide +kernel
theorem dX1_passNight_28 : decode cX1_passNight 28 = .ok (.iaload, 1) := by decide +kernel
theorem dX1_passNight_29 : decode cX1_passNight 29 = .ok (.invokestatic 71, 3) := by decide +kernel
theorem dX1_passNight_32 : decode cX1_passNight 32 = .ok (.iastore, 1) := by decide +kernel
theorem dX1_passNight_33 : decode cX1_passNight 33 = .ok (.iload_n 1, 1) := by decide +kernel
theorem dX1_passNight_34 : decode cX1_passNight 34 = .ok (.aload_n 0, 1) := by decide +kernel
theorem dX1_passNight_35 : decode cX1_passNight 35 = .ok (.getfield 24, 3) := by decide +kernel
theorem dX1_passNight_38 : decode cX1_passNight 38 = .ok (.aload_n 0, 1) := by decide +kernel
theorem dX1_passNight_39 : decode cX1_passNight 39 = .ok (.getfield 9, 3) := by decide +kernel
theorem dX1_passNight_42 : decode cX1_passNight 42 = .ok (.iload_n 2, 1) := by decide +kernel
theorem dX1_passNight_43 : decode cX1_passNight 43 = .ok (.iaload, 1) := by decide +kernel
theorem dX1_passNight_44 : decode cX1_passNight 44 = .ok (.iaload, 1) := by decide +kernel
theorem dX1_passNight_45 : decode cX1_passNight 45 = .ok (.iadd, 1) := by decide +kernel
theorem dX1_passNight_46 : decode cX1_passNight 46 = .ok (.istore_n 1, 1) := by decide +kernel
theorem dX1_passNight_47 : decode cX1_passNight 47 = .ok (.iinc 2 1, 3) := by decide +kernel
theorem dX1_passNight_50 : decode cX1_passNight 50 = .ok (.goto (-46), 3) := by decide +kernel
theorem dX1_passNight_53 : decode cX1_passNight 53 = .ok (.aload_n 0, 1) := by decide +kernel
theorem dX1_passNight_54 : decode cX1_passNight 54 = .ok (.aload_n 0, 1) := by decide +kernel
theorem dX1_passNight_55 : decode cX1_passNight 55 = .ok (.getfield 27, 3) := by decide +kernel
theorem dX1_passNight_58 : decode cX1_passNight 58 = .ok (.aload_n 0, 1) := by decide +kernel
theorem dX1_passNight_59 : decode cX1_passNight 59 = .ok (.getfield 31, 3) := by decide +kernel
theorem dX1_passNight_62 : decode cX1_passNight 62 = .ok (.iload_n 1, 1) := by decide +kernel
theorem dX1_passNight_63 : decode cX1_passNight 63 = .ok (.invokestatic 75, 3) := by decide +kernel
theorem dX1_passNight_66 : decode cX1_passNight 66 = .ok (.putfield 27, 3) := by decide +kernel
theorem dX1_passNight_69 : decode cX1_passNight 69 = .ok (.return_, 1) := by decide +kernel
theorem dX1_isOverburdened_0 : decode cX1_isOverburdened 0 = .ok (.aload_n 0, 1) := by decide +kernel
theorem dX1_isOverburdened_1 : decode cX1_isOverburdened 1 = .ok (.invokevirtual 79, 3) := by decide +kernel
theorem dX1_isOverburdened_4 : decode cX1_isOverburdened 4 = .ok (.aload_n 0, 1) := by decide +kernel
theorem dX1_isOverburdened_5 : decode cX1_isOverburdened 5 = .ok (.getfield 34, 3) := by decide +kernel
theorem dX1_isOverburdened_8 : decode cX1_isOverburdened 8 = .ok (.iload_n 1, 1) := by decide +kernel
theorem dX1_isOverburdened_9 : decode cX1_isOverburdened 9 = .ok (.isub, 1) := by decide +kernel
theorem dX1_isOverburdened_10 : decode cX1_isOverburdened 10 = .ok (.iconst 0, 1) := by decide +kernel
theorem dX1_isOverburdened_11 : decode cX1_isOverburdened 11 = .ok (.invokestatic 83, 3) := by decide +kernel
theorem dX1_isOverburdened_14 : decode cX1_isOverburdened 14 = .ok (.if_icmp .le 7, 3) := by decide +kernel
theorem dX1_isOverburdened_17 : decode cX1_isOverburdened 17 = .ok (.iconst 1, 1) := by decide +kernel
theorem dX1_isOverburdened_18 : decode cX1_isOverburdened 18 = .ok (.goto 4, 3) := by decide +kernel
theorem dX1_isOverburdened_21 : decode cX1_isOverburdened 21 = .ok (.iconst 0, 1) := by decide +kernel
theorem dX1_isOverburdened_22 : decode cX1_isOverburdened 22 = .ok (.ireturn, 1) := by decide +kernel
theorem dX1_fall_0 : decode cX1_fall 0 = .ok (.aload_n 0, 1) := by decide +kernel
theorem dX1_fall_1 : decode cX1_fall 1 = .ok (.iconst 0, 1) := by decide +kernel
theorem dX1_fall_2 : decode cX1_fall 2 = .ok (.putfield 27, 3) := by decide +kernel
theorem dX1_fall_5 : decode cX1_fall 5 = .ok (.aload_n 0, 1) := by decide +kernel
theorem dX1_fall_6 : decode cX1_fall 6 = .ok (.getfield 37, 3) := by decide +kernel
theorem dX1_fall_9 : decode cX1_fall 9 = .ok (.bipush (-4), 2) := by decide +kernel
theorem dX1_fall_11 : decode cX1_fall 11 = .ok (.if_icmp .ne 8, 3) := by decide +kernel
theorem dX1_fall_14 : decode cX1_fall 14 = .ok (.aload_n 0, 1) := by decide +kernel
theorem dX1_fall_15 : decode cX1_fall 15 = .ok (.iload_n 1, 1) := by decide +kernel
theorem dX1_fall_16 : decode cX1_fall 16 = .ok (.putfield 37, 3) := by decide +kernel
theorem dX1_fall_19 : decode cX1_fall 19 = .ok (.return_, 1) := by decide +kernel
theorem dX2_init_0 : decode cX2_init 0 = .ok (.aload_n 0, 1) := by decide +kernel
theorem dX2_init_1 : decode cX2_init 1 = .ok (.invokespecial 3, 3) := by decide +kernel
theorem dX2_init_4 : decode cX2_init 4 = .ok (.aload_n 0, 1) := by decide +kernel
theorem dX2_init_5 : decode cX2_init 5 = .ok (.bipush 7, 2) := by decide +kernel
theorem dX2_init_7 : decode cX2_init 7 = .ok (.bipush 8, 2) := by decide +kernel
theorem dX2_init_9 : decode cX2_init 9 = .ok (.multianewarray 9 2, 4) := by decide +kernel
theorem dX2_init_13 : decode cX2_init 13 = .ok (.putfield 11, 3) := by decide +kernel
theorem dX2_init_16 : decode cX2_init 16 = .ok (.aload_n 0, 1) := by decide +kernel
theorem dX2_init_17 : decode cX2_init 17 = .ok (.bipush 6, 2) := by decide +kernel
theorem dX2_init_19 : decode cX2_init 19 = .ok (.newarray .int, 2) := by decide +kernel
theorem dX2_init_21 : decode cX2_init 21 = .ok (.putfield 16, 3) := by decide +kernel
theorem dX2_init_24 : decode cX2_init 24 = .ok (.aload_n 0, 1) := by decide +kernel
theorem dX2_init_25 : decode cX2_init 25 = .ok (.bipush 6, 2) := by decide +kernel
theorem dX2_init_27 : decode cX2_init 27 = .ok (.newarray .int, 2) := by decide +kernel
theorem dX2_init_29 : decode cX2_init 29 = .ok (.putfield 20, 3) := by decide +kernel
theorem dX2_init_32 : decode cX2_init 32 = .ok (.return_, 1) := by decide +kernel
theorem dX2_plan_0 : decode cX2_plan 0 = .ok (.aload_n 0, 1) := by decide +kernel
theorem dX2_plan_1 : decode cX2_plan 1 = .ok (.aload_n 1, 1) := by decide +kernel
theorem dX2_plan_2 : decode cX2_plan 2 = .ok (.putfield 23, 3) := by decide +kernel
theorem dX2_plan_5 : decode cX2_plan 5 = .ok (.aload_n 0, 1) := by decide +kernel
theorem dX2_plan_6 : decode cX2_plan 6 = .ok (.iload_n 2, 1) := by decide +kernel
theorem dX2_plan_7 : decode cX2_plan 7 = .ok (.putfield 27, 3) := by decide +kernel
theorem dX2_plan_10 : decode cX2_plan 10 = .ok (.aload_n 0, 1) := by decide +kernel
theorem dX2_plan_11 : decode cX2_plan 11 = .ok (.sipush 361, 3) := by decide +kernel
theorem dX2_plan_14 : decode cX2_plan 14 = .ok (.putfield 31, 3) := by decide +kernel
theorem dX2_plan_17 : decode cX2_plan 17 = .ok (.aload_n 0, 1) := by decide +kernel
theorem dX2_plan_18 : decode cX2_plan 18 = .ok (.iconst 0, 1) := by decide +kernel
theorem dX2_plan_19 : decode cX2_plan 19 = .ok (.putfield 34, 3) := by decide +kernel
theorem dX2_plan_22 : decode cX2_plan 22 = .ok (.aload_n 1, 1) := by decide +kernel
theorem dX2_plan_23 : decode cX2_plan 23 = .ok (.getfield 37, 3) := by decide +kernel
theorem dX2_plan_26 : decode cX2_plan 26 = .ok (.iconst 0, 1) := by decide +kernel
theorem dX2_plan_27 : decode cX2_plan 27 = .ok (.aload_n 0, 1) := by decide +kernel
theorem dX2_plan_28 : decode cX2_plan 28 = .ok (.getfield 11, 3) := by decide +kernel
theorem dX2_plan_31 : decode cX2_plan 31 = .ok (.iconst 0, 1) := by decide +kernel
theorem dX2_plan_32 : decode cX2_plan 32 = .ok (.aaload, 1) := by decide +kernel
theorem dX2_plan_33 : decode cX2_plan 33 = .ok (.iconst 0, 1) := by decide +kernel
theorem dX2_plan_34 : decode cX2_plan 34 = .ok (.bipush 8, 2) := by decide +kernel
theorem dX2_plan_36 : decode cX2_plan 36 = .ok (.invokestatic 42, 3) := by decide +kernel
theorem dX2_plan_39 : decode cX2_plan 39 = .ok (.aload_n 0, 1) := by decide +kernel
theorem dX2_plan_40 : decode cX2_plan 40 = .ok (.iconst 0, 1) := by decide +kernel
theorem dX2_plan_41 : decode cX2_plan 41 = .ok (.aload_n 1, 1) := by decide +kernel
theorem dX2_plan_42 : decode cX2_plan 42 = .ok (.invokevirtual 48, 3) := by decide +kernel
theorem dX2_plan_45 : decode cX2_plan 45 = .ok (.iconst 0, 1) := by decide +kernel
theorem dX2_plan_46 : decode cX2_plan 46 = .ok (.aload_n 1, 1) := by decide +kernel
theorem dX2_plan_47 : decode cX2_plan 47 = .ok (.getfield 52, 3) := by decide +kernel
theorem dX2_plan_50 : decode cX2_plan 50 = .ok (.iconst 0, 1) := by decide +kernel
theorem dX2_plan_51 : decode cX2_plan 51 = .ok (.invokevirtual 55, 3) := by decide +kernel
theorem dX2_plan_54 : decode cX2_plan 54 = .ok (.return_, 1) := by decide +kernel
theorem dX2_tryEach_0 : decode cX2_tryEach 0 = .ok (.iload_n 2, 1) := by decide +kernel
theorem dX2_tryEach_1 : decode cX2_tryEach 1 = .ok (.ifCond .ne 12, 3) := by decide +kernel
theorem dX2_tryEach_4 : decode cX2_tryEach 4 = .ok (.aload_n 0, 1) := by decide +kernel
theorem dX2_tryEach_5 : decode cX2_tryEach 5 = .ok (.iload_n 1, 1) := by decide +kernel
theorem dX2_tryEach_6 : decode cX2_tryEach 6 = .ok (.iload_n 3, 1) := by decide +kernel
theorem dX2_tryEach_7 : decode cX2_tryEach 7 = .ok (.iload 5, 2) := by decide +kernel
theorem dX2_tryEach_9 : decode cX2_tryEach 9 = .ok (.invokevirtual 59, 3) := by decide +kernel
theorem dX2_tryEach_12 : decode cX2_tryEach 12 = .ok (.return_, 1) := by decide +kernel
theorem dX2_tryEach_13 : decode cX2_tryEach 13 = .ok (.iload_n 1, 1) := by decide +kernel
theorem dX2_tryEach_14 : decode cX2_tryEach 14 = .ok (.bipush 6, 2) := by decide +kernel
theorem dX2_tryEach_16 : decode cX2_tryEach 16 = .ok (.if_icmp .ge 10, 3) := by decide +kernel
theorem dX2_tryEach_19 : decode cX2_tryEach 19 = .ok (.aload_n 0, 1) := by decide +kernel
theorem dX2_tryEach_20 : decode cX2_tryEach 20 = .ok (.getfield 23, 3) := by decide +kernel
theorem dX2_tryEach_23 : decode cX2_tryEach 23 = .ok (.ifnonnull 4, 3) := by decide +kernel
theorem dX2_tryEach_26 : decode cX2_tryEach 26 = .ok (.return_, 1) := by decide +kernel
theorem dX2_tryEach_27 : decode cX2_tryEach 27 = .ok (.iconst 0, 1) := by decide +kernel
theorem dX2_tryEach_28 : decode cX2_tryEach 28 = .ok (.istore 6, 2) := by decide +kernel
theorem dX2_tryEach_30 : decode cX2_tryEach 30 = .ok (.iload 6, 2) := by decide +kernel
theorem dX2_tryEach_32 : decode cX2_tryEach 32 = .ok (.aload_n 0, 1) := by decide +kernel
theorem dX2_tryEach_33 : decode cX2_tryEach 33 = .ok (.getfield 23, 3) := by decide +kernel
theorem dX2_tryEach_36 : decode cX2_tryEach 36 = .ok (.getfield 63, 3) := by decide +kernel
theorem dX2_tryEach_39 : decode cX2_tryEach 39 = .ok (.if_icmp .ge 50, 3) := by decide +kernel
theorem dX2_tryEach_42 : decode cX2_tryEach 42 = .ok (.iload_n 2, 1) := by decide +kernel
theorem dX2_tryEach_43 : decode cX2_tryEach 43 = .ok (.iload 6, 2) := by decide +kernel
theorem dX2_tryEach_45 : decode cX2_tryEach 45 = .ok (.invokestatic 66, 3) := by decide +kernel
theorem dX2_tryEach_48 : decode cX2_tryEach 48 = .ok (.ifCond .eq 35, 3) := by decide +kernel
theorem dX2_tryEach_51 : decode cX2_tryEach 51 = .ok (.aload_n 0, 1) := by decide +kernel
theorem dX2_tryEach_52 : decode cX2_tryEach 52 = .ok (.getfield 27, 3) := by decide +kernel
theorem dX2_tryEach_55 : decode cX2_tryEach 55 = .ok (.iload_n 2, 1) := by decide +kernel
theorem dX2_tryEach_56 : decode cX2_tryEach 56 = .ok (.iload 6, 2) := by decide +kernel
theorem dX2_tryEach_58 : decode cX2_tryEach 58 = .ok (.invokestatic 70, 3) := by decide +kernel
theorem dX2_tryEach_61 : decode cX2_tryEach 61 = .ok (.ifCond .eq 22, 3) := by decide +kernel
theorem dX2_tryEach_64 : decode cX2_tryEach 64 = .ok (.aload_n 0, 1) := by decide +kernel
theorem dX2_tryEach_65 : decode cX2_tryEach 65 = .ok (.getfield 16, 3) := by decide +kernel
theorem dX2_tryEach_68 : decode cX2_tryEach 68 = .ok (.iload_n 1, 1) := by decide +kernel
theorem dX2_tryEach_69 : decode cX2_tryEach 69 = .ok (.iload 6, 2) := by decide +kernel
theorem dX2_tryEach_71 : decode cX2_tryEach 71 = .ok (.iastore, 1) := by decide +kernel
theorem dX2_tryEach_72 : decode cX2_tryEach 72 = .ok (.aload_n 0, 1) := by decide +kernel
theorem dX2_tryEach_73 : decode cX2_tryEach 73 = .ok (.iload_n 1, 1) := by decide +kernel
theorem dX2_tryEach_74 : decode cX2_tryEach 74 = .ok (.iload_n 2, 1) := by decide +kernel
theorem dX2_tryEach_75 : decode cX2_tryEach 75 = .ok (.iload_n 3, 1) := by decide +kernel
theorem dX2_tryEach_76 : decode cX2_tryEach 76 = .ok (.iload 4, 2) := by decide +kernel
theorem dX2_tryEach_78 : decode cX2_tryEach 78 = .ok (.iload 5, 2) := by decide +kernel
theorem dX2_tryEach_80 : decode cX2_tryEach 80 = .ok (.invokevirtual 74, 3) := by decide +kernel
theorem dX2_tryEach_83 : decode cX2_tryEach 83 = .ok (.iinc 6 1, 3) := by decide +kernel
theorem dX2_tryEach_86 : decode cX2_tryEach 86 = .ok (.goto (-56), 3) := by decide +kernel
theorem dX2_tryEach_89 : decode cX2_tryEach 89 = .ok (.return_, 1) := by decide +kernel
theorem dX2_payNext_0 : decode cX2_payNext 0 = .ok (.aload_n 0, 1) := by decide +kernel
theorem dX2_payNext_1 : decode cX2_payNext 1 = .ok (.getfield 11, 3) := by decide +kernel
theorem dX2_payNext_4 : decode cX2_payNext 4 = .ok (.iload_n 1, 1) := by decide +kernel
theorem dX2_payNext_5 : decode cX2_payNext 5 = .ok (.iconst 1, 1) := by decide +kernel
theorem dX2_payNext_6 : decode cX2_payNext 6 = .ok (.iadd, 1) := by decide +kernel
theorem dX2_payNext_7 : decode cX2_payNext 7 = .ok (.aaload, 1) := by decide +kernel
theorem dX2_payNext_8 : decode cX2_payNext 8 = .ok (.astore 6, 2) := by decide +kernel
theorem dX2_payNext_10 : decode cX2_payNext 10 = .ok (.aload_n 0, 1) := by decide +kernel
theorem dX2_payNext_11 : decode cX2_payNext 11 = .ok (.getfield 11, 3) := by decide +kernel
theorem dX2_payNext_14 : decode cX2_payNext 14 = .ok (.iload_n 1, 1) := by decide +kernel
theorem dX2_payNext_15 : decode cX2_payNext 15 = .ok (.aaload, 1) := by decide +kernel
theorem dX2_payNext_16 : decode cX2_payNext 16 = .ok (.iconst 0, 1) := by decide +kernel
theorem dX2_payNext_17 : decode cX2_payNext 17 = .ok (.aload 6, 2) := by decide +kernel
theorem dX2_payNext_19 : decode cX2_payNext 19 = .ok (.iconst 0, 1) := by decide +kernel
theorem dX2_payNext_20 : decode cX2_payNext 20 = .ok (.bipush 8, 2) := by decide +kernel
theorem dX2_payNext_22 : decode cX2_payNext 22 = .ok (.invokestatic 42, 3) := by decide +kernel
theorem dX2_payNext_25 : decode cX2_payNext 25 = .ok (.aload_n 0, 1) := by decide +kernel
theorem dX2_payNext_26 : decode cX2_payNext 26 = .ok (.getfield 16, 3) := by decide +kernel
theorem dX2_payNext_29 : decode cX2_payNext 29 = .ok (.iload_n 1, 1) := by decide +kernel
theorem dX2_payNext_30 : decode cX2_payNext 30 = .ok (.iaload, 1) := by decide +kernel
theorem dX2_payNext_31 : decode cX2_payNext 31 = .ok (.istore 7, 2) := by decide +kernel
theorem dX2_payNext_33 : decode cX2_payNext 33 = .ok (.aload_n 0, 1) := by decide +kernel
theorem dX2_payNext_34 : decode cX2_payNext 34 = .ok (.iload_n 2, 1) := by decide +kernel
theorem dX2_payNext_35 : decode cX2_payNext 35 = .ok (.invokevirtual 77, 3) := by decide +kernel
theorem dX2_payNext_38 : decode cX2_payNext 38 = .ok (.istore 8, 2) := by decide +kernel
theorem dX2_payNext_40 : decode cX2_payNext 40 = .ok (.aload_n 0, 1) := by decide +kernel
theorem dX2_payNext_41 : decode cX2_payNext 41 = .ok (.getfield 23, 3) := by decide +kernel
theorem dX2_payNext_44 : decode cX2_payNext 44 = .ok (.getfield 81, 3) := by decide +kernel
theorem dX2_payNext_47 : decode cX2_payNext 47 = .ok (.iload 8, 2) := by decide +kernel
theorem dX2_payNext_49 : decode cX2_payNext 49 = .ok (.isub, 1) := by decide +kernel
theorem dX2_payNext_50 : decode cX2_payNext 50 = .ok (.iconst 0, 1) := by decide +kernel
theorem dX2_payNext_51 : decode cX2_payNext 51 = .ok (.invokestatic 84, 3) := by decide +kernel
theorem dX2_payNext_54 : decode cX2_payNext 54 = .ok (.istore 9, 2) := by decide +kernel
theorem dX2_payNext_56 : decode cX2_payNext 56 = .ok (.aload_n 0, 1) := by decide +kernel
theorem dX2_payNext_57 : decode cX2_payNext 57 = .ok (.getfield 31, 3) := by decide +kernel
theorem dX2_payNext_60 : decode cX2_payNext 60 = .ok (.sipush 360, 3) := by decide +kernel
theorem dX2_payNext_63 : decode cX2_payNext 63 = .ok (.invokestatic 90, 3) := by decide +kernel
theorem dX2_payNext_66 : decode cX2_payNext 66 = .ok (.istore 10, 2) := by decide +kernel
theorem dX2_payNext_68 : decode cX2_payNext 68 = .ok (.iload_n 3, 1) := by decide +kernel
theorem dX2_payNext_69 : decode cX2_payNext 69 = .ok (.istore 11, 2) := by decide +kernel
theorem dX2_payNext_71 : decode cX2_payNext 71 = .ok (.iload 4, 2) := by decide +kernel
theorem dX2_payNext_73 : decode cX2_payNext 73 = .ok (.istore 12, 2) := by decide +kernel
theorem dX2_payNext_75 : decode cX2_payNext 75 = .ok (.iload 12, 2) := by decide +kernel
theorem dX2_payNext_77 : decode cX2_payNext 77 = .ok (.aload 6, 2) := by decide +kernel
theorem dX2_payNext_79 : decode cX2_payNext 79 = .ok (.iload 7, 2) := by decide +kernel
theorem dX2_payNext_81 : decode cX2_payNext 81 = .ok (.iaload, 1) := by decide +kernel
theorem dX2_payNext_82 : decode cX2_payNext 82 = .ok (.if_icmp .ge 59, 3) := by decide +kernel
theorem dX2_payNext_85 : decode cX2_payNext 85 = .ok (.iload 11, 2) := by decide +kernel
theorem dX2_payNext_87 : decode cX2_payNext 87 = .ok (.iload 10, 2) := by decide +kernel
theorem dX2_payNext_89 : decode cX2_payNext 89 = .ok (.if_icmp .ge 52, 3) := by decide +kernel
theorem dX2_payNext_92 : decode cX2_payNext 92 = .ok (.iload 12, 2) := by decide +kernel
theorem dX2_payNext_94 : decode cX2_payNext 94 = .ok (.iload 9, 2) := by decide +kernel
theorem dX2_payNext_96 : decode cX2_payNext 96 = .ok (.iload 10, 2) := by decide +kernel
theorem dX2_payNext_98 : decode cX2_payNext 98 = .ok (.iload 11, 2) := by decide +kernel
theorem dX2_payNext_100 : decode cX2_payNext 100 = .ok (.isub, 1) := by decide +kernel
theorem dX2_payNext_101 : decode cX2_payNext 101 = .ok (.imul, 1) := by decide +kernel
theorem dX2_payNext_102 : decode cX2_payNext 102 = .ok (.iadd, 1) := by decide +kernel
theorem dX2_payNext_103 : decode cX2_payNext 103 = .ok (.aload 6, 2) := by decide +kernel
theorem dX2_payNext_105 : decode cX2_payNext 105 = .ok (.iload 7, 2) := by decide +kernel
theorem dX2_payNext_107 : decode cX2_payNext 107 = .ok (.iaload, 1) := by decide +kernel
theorem dX2_payNext_108 : decode cX2_payNext 108 = .ok (.if_icmp .ge 4, 3) := by decide +kernel
theorem dX2_payNext_111 : decode cX2_payNext 111 = .ok (.return_, 1) := by decide +kernel
theorem dX2_payNext_112 : decode cX2_payNext 112 = .ok (.iload 12, 2) := by decide +kernel
theorem dX2_payNext_114 : decode cX2_payNext 114 = .ok (.aload_n 0, 1) := by decide +kernel
theorem dX2_payNext_115 : decode cX2_payNext 115 = .ok (.getfield 23, 3) := by decide +kernel
theorem dX2_payNext_118 : decode cX2_payNext 118 = .ok (.getfield 81, 3) := by decide +kernel
theorem dX2_payNext_121 : decode cX2_payNext 121 = .ok (.iload 8, 2) := by decide +kernel
theorem dX2_payNext_123 : decode cX2_payNext 123 = .ok (.invokestatic 93, 3) := by decide +kernel
theorem dX2_payNext_126 : decode cX2_payNext 126 = .ok (.istore 12, 2) := by decide +kernel
theorem dX2_payNext_128 : decode cX2_payNext 128 = .ok (.aload_n 0, 1) := by decide +kernel
theorem dX2_payNext_129 : decode cX2_payNext 129 = .ok (.aload 6, 2) := by decide +kernel
theorem dX2_payNext_131 : decode cX2_payNext 131 = .ok (.iload_n 2, 1) := by decide +kernel
theorem dX2_payNext_132 : decode cX2_payNext 132 = .ok (.invokevirtual 97, 3) := by decide +kernel
theorem dX2_payNext_135 : decode cX2_payNext 135 = .ok (.iinc 11 1, 3) := by decide +kernel
theorem dX2_payNext_138 : decode cX2_payNext 138 = .ok (.goto (-63), 3) := by decide +kernel
theorem dX2_payNext_141 : decode cX2_payNext 141 = .ok (.aload 6, 2) := by decide +kernel
theorem dX2_payNext_143 : decode cX2_payNext 143 = .ok (.iload 7, 2) := by decide +kernel
theorem dX2_payNext_145 : decode cX2_payNext 145 = .ok (.iaload, 1) := by decide +kernel
theorem dX2_payNext_146 : decode cX2_payNext 146 = .ok (.istore 13, 2) := by decide +kernel
theorem dX2_payNext_148 : decode cX2_payNext 148 = .ok (.iload 12, 2) := by decide +kernel
theorem dX2_payNext_150 : decode cX2_payNext 150 = .ok (.iload 13, 2) := by decide +kernel
theorem dX2_payNext_152 : decode cX2_payNext 152 = .ok (.if_icmp .lt 30, 3) := by decide +kernel
theorem dX2_payNext_155 : decode cX2_payNext 155 = .ok (.aload_n 0, 1) := by decide +kernel
theorem dX2_payNext_156 : decode cX2_payNext 156 = .ok (.iload_n 1, 1) := by decide +kernel
theorem dX2_payNext_157 : decode cX2_payNext 157 = .ok (.iconst 1, 1) := by decide +kernel
theorem dX2_payNext_158 : decode cX2_payNext 158 = .ok (.iadd, 1) := by decide +kernel
theorem dX2_payNext_159 : decode cX2_payNext 159 = .ok (.iload_n 2, 1) := by decide +kernel
theorem dX2_payNext_160 : decode cX2_payNext 160 = .ok (.iconst 1, 1) := by decide +kernel
theorem dX2_payNext_161 : decode cX2_payNext 161 = .ok (.iload 7, 2) := by decide +kernel
theorem dX2_payNext_163 : decode cX2_payNext 163 = .ok (.ishl, 1) := by decide +kernel
theorem dX2_payNext_164 : decode cX2_payNext 164 = .ok (.iconst (-1), 1) := by decide +kernel
theorem dX2_payNext_165 : decode cX2_payNext 165 = .ok (.ixor, 1) := by decide +kernel
theorem dX2_payNext_166 : decode cX2_payNext 166 = .ok (.iand, 1) := by decide +kernel
theorem dX2_payNext_167 : decode cX2_payNext 167 = .ok (.iload 11, 2) := by decide +kernel
theorem dX2_payNext_169 : decode cX2_payNext 169 = .ok (.iload 12, 2) := by decide +kernel
theorem dX2_payNext_171 : decode cX2_payNext 171 = .ok (.iload 13, 2) := by decide +kernel
theorem dX2_payNext_173 : decode cX2_payNext 173 = .ok (.isub, 1) := by decide +kernel
theorem dX2_payNext_174 : decode cX2_payNext 174 = .ok (.iload 5, 2) := by decide +kernel
theorem dX2_payNext_176 : decode cX2_payNext 176 = .ok (.iload 13, 2) := by decide +kernel
theorem dX2_payNext_178 : decode cX2_payNext 178 = .ok (.iadd, 1) := by decide +kernel
theorem dX2_payNext_179 : decode cX2_payNext 179 = .ok (.invokevirtual 55, 3) := by decide +kernel
theorem dX2_payNext_182 : decode cX2_payNext 182 = .ok (.return_, 1) := by decide +kernel
theorem dX2_taxesOf_0 : decode cX2_taxesOf 0 = .ok (.iconst 0, 1) := by decide +kernel
theorem dX2_taxesOf_1 : decode cX2_taxesOf 1 = .ok (.istore_n 2, 1) := by decide +kernel
theorem dX2_taxesOf_2 : decode cX2_taxesOf 2 = .ok (.iconst 0, 1) := by decide +kernel
theorem dX2_taxesOf_3 : decode cX2_taxesOf 3 = .ok (.istore_n 3, 1) := by decide +kernel
theorem dX2_taxesOf_4 : decode cX2_taxesOf 4 = .ok (.iload_n 3, 1) := by decide +kernel
theorem dX2_taxesOf_5 : decode cX2_taxesOf 5 = .ok (.aload_n 0, 1) := by decide +kernel
theorem dX2_taxesOf_6 : decode cX2_taxesOf 6 = .ok (.getfield 23, 3) := by decide +kernel
theorem dX2_taxesOf_9 : decode cX2_taxesOf 9 = .ok (.getfield 63, 3) := by decide +kernel
theorem dX2_taxesOf_12 : decode cX2_taxesOf 12 = .ok (.if_icmp .ge 37, 3) := by decide +kernel
theorem dX2_taxesOf_15 : decode cX2_taxesOf 15 = .ok (.iload_n 1, 1) := by decide +kernel
theorem dX2_taxesOf_16 : decode cX2_taxesOf 16 = .ok (.iload_n 3, 1) := by decide +kernel
theorem dX2_taxesOf_17 : decode cX2_taxesOf 17 = .ok (.invokestatic 66, 3) := by decide +kernel
theorem dX2_taxesOf_20 : decode cX2_taxesOf 20 = .ok (.ifCond .eq 23, 3) := by decide +kernel
theorem dX2_taxesOf_23 : decode cX2_taxesOf 23 = .ok (.iload_n 2, 1) := by decide +kernel
theorem dX2_taxesOf_24 : decode cX2_taxesOf 24 = .ok (.aload_n 0, 1) := by decide +kernel
theorem dX2_taxesOf_25 : decode cX2_taxesOf 25 = .ok (.getfield 23, 3) := by decide +kernel
theorem dX2_taxesOf_28 : decode cX2_taxesOf 28 = .ok (.getfield 101, 3) := by decide +kernel
theorem dX2_taxesOf_31 : decode cX2_taxesOf 31 = .ok (.aload_n 0, 1) := by decide +kernel
theorem dX2_taxesOf_32 : decode cX2_taxesOf 32 = .ok (.getfield 23, 3) := by decide +kernel
theorem dX2_taxesOf_35 : decode cX2_taxesOf 35 = .ok (.getfield 104, 3) := by decide +kernel
theorem dX2_taxesOf_38 : decode cX2_taxesOf 38 = .ok (.iload_n 3, 1) := by decide +kernel
theorem dX2_taxesOf_39 : decode cX2_taxesOf 39 = .ok (.iaload, 1) := by decide +kernel
theorem dX2_taxesOf_40 : decode cX2_taxesOf 40 = .ok (.iaload, 1) := by decide +kernel
theorem dX2_taxesOf_41 : decode cX2_taxesOf 41 = .ok (.iadd, 1) := by decide +kernel
theorem dX2_taxesOf_42 : decode cX2_taxesOf 42 = .ok (.istore_n 2, 1) := by decide +kernel
theorem dX2_taxesOf_43 : decode cX2_taxesOf 43 = .ok (.iinc 3 1, 3) := by decide +kernel
theorem dX2_taxesOf_46 : decode cX2_taxesOf 46 = .ok (.goto (-42), 3) := by decide +kernel
theorem dX2_taxesOf_49 : decode cX2_taxesOf 49 = .ok (.iload_n 2, 1) := by decide +kernel
theorem dX2_taxesOf_50 : decode cX2_taxesOf 50 = .ok (.ireturn, 1) := by decide +kernel
theorem dX2_growAmounts_0 : decode cX2_growAmounts 0 = .ok (.iconst 0, 1) := by decide +kernel
theorem dX2_growAmounts_1 : decode cX2_growAmounts 1 = .ok (.istore_n 3, 1) := by decide +kernel
theorem dX2_growAmounts_2 : decode cX2_growAmounts 2 = .ok (.iload_n 3, 1) := by decide +kernel
theorem dX2_growAmounts_3 : decode cX2_growAmounts 3 = .ok (.aload_n 0, 1) := by decide +kernel
theorem dX2_growAmounts_4 : decode cX2_growAmounts 4 = .ok (.getfield 23, 3) := by decide +kernel
theorem dX2_growAmounts_7 : decode cX2_growAmounts 7 = .ok (.getfield 63, 3) := by decide +kernel
theorem dX2_growAmounts_10 : decode cX2_growAmounts 10 = .ok (.if_icmp .ge 35, 3) := by decide +kernel
theorem dX2_growAmounts_13 : decode cX2_growAmounts 13 = .ok (.iload_n 2, 1) := by decide +kernel
theorem dX2_growAmounts_14 : decode cX2_growAmounts 14 = .ok (.iload_n 3, 1) := by decide +kernel
theorem dX2_growAmounts_15 : decode cX2_growAmounts 15 = .ok (.invokestatic 66, 3) := by decide +kernel
theorem dX2_growAmounts_18 : decode cX2_growAmounts 18 = .ok (.ifCond .eq 21, 3) := by decide +kernel
theorem dX2_growAmounts_21 : decode cX2_growAmounts 21 = .ok (.aload_n 1, 1) := by decide +kernel
theorem dX2_growAmounts_22 : decode cX2_growAmounts 22 = .ok (.iload_n 3, 1) := by decide +kernel
theorem dX2_growAmounts_23 : decode cX2_growAmounts 23 = .ok (.aload_n 1, 1) := by decide +kernel
theorem dX2_growAmounts_24 : decode cX2_growAmounts 24 = .ok (.iload_n 3, 1) := by decide +kernel
theorem dX2_growAmounts_25 : decode cX2_growAmounts 25 = .ok (.iaload, 1) := by decide +kernel
theorem dX2_growAmounts_26 : decode cX2_growAmounts 26 = .ok (.aload_n 0, 1) := by decide +kernel
theorem dX2_growAmounts_27 : decode cX2_growAmounts 27 = .ok (.getfield 23, 3) := by decide +kernel
theorem dX2_growAmounts_30 : decode cX2_growAmounts 30 = .ok (.getfield 107, 3) := by decide +kernel
theorem dX2_growAmounts_33 : decode cX2_growAmounts 33 = .ok (.iload_n 3, 1) := by decide +kernel
theorem dX2_growAmounts_34 : decode cX2_growAmounts 34 = .ok (.iaload, 1) := by decide +kernel
theorem dX2_growAmounts_35 : decode cX2_growAmounts 35 = .ok (.invokestatic 110, 3) := by decide +kernel
theorem dX2_growAmounts_38 : decode cX2_growAmounts 38 = .ok (.iastore, 1) := by decide +kernel
theorem dX2_growAmounts_39 : decode cX2_growAmounts 39 = .ok (.iinc 3 1, 3) := by decide +kernel
theorem dX2_growAmounts_42 : decode cX2_growAmounts 42 = .ok (.goto (-40), 3) := by decide +kernel
theorem dX2_growAmounts_45 : decode cX2_growAmounts 45 = .ok (.return_, 1) := by decide +kernel
theorem dX2_keepIfBetter_0 : decode cX2_keepIfBetter 0 = .ok (.iload_n 2, 1) := by decide +kernel
theorem dX2_keepIfBetter_1 : decode cX2_keepIfBetter 1 = .ok (.aload_n 0, 1) := by decide +kernel
theorem dX2_keepIfBetter_2 : decode cX2_keepIfBetter 2 = .ok (.getfield 31, 3) := by decide +kernel
theorem dX2_keepIfBetter_5 : decode cX2_keepIfBetter 5 = .ok (.if_icmp .lt 19, 3) := by decide +kernel
theorem dX2_keepIfBetter_8 : decode cX2_keepIfBetter 8 = .ok (.iload_n 2, 1) := by decide +kernel
theorem dX2_keepIfBetter_9 : decode cX2_keepIfBetter 9 = .ok (.aload_n 0, 1) := by decide +kernel
theorem dX2_keepIfBetter_10 : decode cX2_keepIfBetter 10 = .ok (.getfield 31, 3) := by decide +kernel
theorem dX2_keepIfBetter_13 : decode cX2_keepIfBetter 13 = .ok (.if_icmp .ne 35, 3) := by decide +kernel
theorem dX2_keepIfBetter_16 : decode cX2_keepIfBetter 16 = .ok (.iload_n 3, 1) := by decide +kernel
theorem dX2_keepIfBetter_17 : decode cX2_keepIfBetter 17 = .ok (.aload_n 0, 1) := by decide +kernel
theorem dX2_keepIfBetter_18 : decode cX2_keepIfBetter 18 = .ok (.getfield 34, 3) := by decide +kernel
theorem dX2_keepIfBetter_21 : decode cX2_keepIfBetter 21 = .ok (.if_icmp .ge 27, 3) := by decide +kernel
theorem dX2_keepIfBetter_24 : decode cX2_keepIfBetter 24 = .ok (.aload_n 0, 1) := by decide +kernel
theorem dX2_keepIfBetter_25 : decode cX2_keepIfBetter 25 = .ok (.iload_n 2, 1) := by decide +kernel
theorem dX2_keepIfBetter_26 : decode cX2_keepIfBetter 26 = .ok (.putfield 31, 3) := by decide +kernel
theorem dX2_keepIfBetter_29 : decode cX2_keepIfBetter 29 = .ok (.aload_n 0, 1) := by decide +kernel
theorem dX2_keepIfBetter_30 : decode cX2_keepIfBetter 30 = .ok (.iload_n 3, 1) := by decide +kernel
theorem dX2_keepIfBetter_31 : decode cX2_keepIfBetter 31 = .ok (.putfield 34, 3) := by decide +kernel
theorem dX2_keepIfBetter_34 : decode cX2_keepIfBetter 34 = .ok (.aload_n 0, 1) := by decide +kernel
theorem dX2_keepIfBetter_35 : decode cX2_keepIfBetter 35 = .ok (.getfield 16, 3) := by decide +kernel
theorem dX2_keepIfBetter_38 : decode cX2_keepIfBetter 38 = .ok (.iconst 0, 1) := by decide +kernel
theorem dX2_keepIfBetter_39 : decode cX2_keepIfBetter 39 = .ok (.aload_n 0, 1) := by decide +kernel
theorem dX2_keepIfBetter_40 : decode cX2_keepIfBetter 40 = .ok (.getfield 20, 3) := by decide +kernel
theorem dX2_keepIfBetter_43 : decode cX2_keepIfBetter 43 = .ok (.iconst 0, 1) := by decide +kernel
theorem dX2_keepIfBetter_44 : decode cX2_keepIfBetter 44 = .ok (.iload_n 1, 1) := by decide +kernel
theorem dX2_keepIfBetter_45 : decode cX2_keepIfBetter 45 = .ok (.invokestatic 42, 3) := by decide +kernel
theorem dX2_keepIfBetter_48 : decode cX2_keepIfBetter 48 = .ok (.return_, 1) := by decide +kernel
theorem dX3_init_0 : decode cX3_init 0 = .ok (.aload_n 0, 1) := by decide +kernel
theorem dX3_init_1 : decode cX3_init 1 = .ok (.invokespecial 3, 3) := by decide +kernel
theorem dX3_init_4 : decode cX3_init 4 = .ok (.aload_n 0, 1) := by decide +kernel
theorem dX3_init_5 : decode cX3_init 5 = .ok (.bipush 24, 2) := by decide +kernel
theorem dX3_init_7 : decode cX3_init 7 = .ok (.newarray .int, 2) := by decide +kernel
theorem dX3_init_9 : decode cX3_init 9 = .ok (.putfield 9, 3) := by decide +kernel
theorem dX3_init_12 : decode cX3_init 12 = .ok (.return_, 1) := by decide +kernel
theorem dX3_begin_0 : decode cX3_begin 0 = .ok (.aload_n 0, 1) := by decide +kernel
theorem dX3_begin_1 : decode cX3_begin 1 = .ok (.iconst 1, 1) := by decide +kernel
theorem dX3_begin_2 : decode cX3_begin 2 = .ok (.putfield 15, 3) := by decide +kernel
theorem dX3_begin_5 : decode cX3_begin 5 = .ok (.aload_n 0, 1) := by decide +kernel
theorem dX3_begin_6 : decode cX3_begin 6 = .ok (.iload_n 1, 1) := by decide +kernel
theorem dX3_begin_7 : decode cX3_begin 7 = .ok (.putfield 19, 3) := by decide +kernel
theorem dX3_begin_10 : decode cX3_begin 10 = .ok (.aload_n 0, 1) := by decide +kernel
theorem dX3_begin_11 : decode cX3_begin 11 = .ok (.iload_n 2, 1) := by decide +kernel
theorem dX3_begin_12 : decode cX3_begin 12 = .ok (.putfield 23, 3) := by decide +kernel
theorem dX3_begin_15 : decode cX3_begin 15 = .ok (.aload_n 0, 1) := by decide +kernel
theorem dX3_begin_16 : decode cX3_begin 16 = .ok (.getfield 9, 3) := by decide +kernel
theorem dX3_begin_19 : decode cX3_begin 19 = .ok (.iconst 0, 1) := by decide +kernel
theorem dX3_begin_20 : decode cX3_begin 20 = .ok (.invokestatic 26, 3) := by decide +kernel
theorem dX3_begin_23 : decode cX3_begin 23 = .ok (.return_, 1) := by decide +kernel
theorem dX3_narrowed_0 : decode cX3_narrowed 0 = .ok (.iload_n 0, 1) := by decide +kernel
theorem dX3_narrowed_1 : decode cX3_narrowed 1 = .ok (.ifCond .ne 6, 3) := by decide +kernel
theorem dX3_narrowed_4 : decode cX3_narrowed 4 = .ok (.iload_n 1, 1) := by decide +kernel
theorem dX3_narrowed_5 : decode cX3_narrowed 5 = .ok (.i2b, 1) := by decide +kernel
theorem dX3_narrowed_6 : decode cX3_narrowed 6 = .ok (.ireturn, 1) := by decide +kernel
theorem dX3_narrowed_7 : decode cX3_narrowed 7 = .ok (.iload_n 0, 1) := by decide +kernel
theorem dX3_narrowed_8 : decode cX3_narrowed 8 = .ok (.iconst 1, 1) := by decide +kernel
theorem dX3_narrowed_9 : decode cX3_narrowed 9 = .ok (.if_icmp .ne 8, 3) := by decide +kernel
theorem dX3_narrowed_12 : decode cX3_narrowed 12 = .ok (.iload_n 1, 1) := by decide +kernel
theorem dX3_narrowed_13 : decode cX3_narrowed 13 = .ok (.i2s, 1) := by decide +kernel
theorem dX3_narrowed_14 : decode cX3_narrowed 14 = .ok (.goto 4, 3) := by decide +kernel
theorem dX3_narrowed_17 : decode cX3_narrowed 17 = .ok (.iload_n 1, 1) := by decide +kernel
theorem dX3_narrowed_18 : decode cX3_narrowed 18 = .ok (.ireturn, 1) := by decide +kernel
theorem dX3_hasItems_0 : decode cX3_hasItems 0 = .ok (.iload_n 2, 1) := by decide +kernel
theorem dX3_hasItems_1 : decode cX3_hasItems 1 = .ok (.ifCond .lt 29, 3) := by decide +kernel
theorem dX3_hasItems_4 : decode cX3_hasItems 4 = .ok (.iload_n 1, 1) := by decide +kernel
theorem dX3_hasItems_5 : decode cX3_hasItems 5 = .ok (.ifCond .lt 25, 3) := by decide +kernel
theorem dX3_hasItems_8 : decode cX3_hasItems 8 = .ok (.iload_n 1, 1) := by decide +kernel
theorem dX3_hasItems_9 : decode cX3_hasItems 9 = .ok (.aload_n 0, 1) := by decide +kernel
theorem dX3_hasItems_10 : decode cX3_hasItems 10 = .ok (.getfield 23, 3) := by decide +kernel
theorem dX3_hasItems_13 : decode cX3_hasItems 13 = .ok (.if_icmp .gt 17, 3) := by decide +kernel
theorem dX3_hasItems_16 : decode cX3_hasItems 16 = .ok (.iload_n 2, 1) := by decide +kernel
theorem dX3_hasItems_17 : decode cX3_hasItems 17 = .ok (.aload_n 0, 1) := by decide +kernel
theorem dX3_hasItems_18 : decode cX3_hasItems 18 = .ok (.getfield 23, 3) := by decide +kernel
theorem dX3_hasItems_21 : decode cX3_hasItems 21 = .ok (.iload_n 1, 1) := by decide +kernel
theorem dX3_hasItems_22 : decode cX3_hasItems 22 = .ok (.isub, 1) := by decide +kernel
theorem dX3_hasItems_23 : decode cX3_hasItems 23 = .ok (.if_icmp .gt 7, 3) := by decide +kernel
theorem dX3_hasItems_26 : decode cX3_hasItems 26 = .ok (.iconst 1, 1) := by decide +kernel
theorem dX3_hasItems_27 : decode cX3_hasItems 27 = .ok (.goto 4, 3) := by decide +kernel
theorem dX3_hasItems_30 : decode cX3_hasItems 30 = .ok (.iconst 0, 1) := by decide +kernel
theorem dX3_hasItems_31 : decode cX3_hasItems 31 = .ok (.ireturn, 1) := by decide +kernel
theorem dX3_refusal_0 : decode cX3_refusal 0 = .ok (.aload_n 0, 1) := by decide +kernel
theorem dX3_refusal_1 : decode cX3_refusal 1 = .ok (.getfield 15, 3) := by decide +kernel
theorem dX3_refusal_4 : decode cX3_refusal 4 = .ok (.ifCond .ne 6, 3) := by decide +kernel
theorem dX3_refusal_7 : decode cX3_refusal 7 = .ok (.bipush (-11), 2) := by decide +kernel
theorem dX3_refusal_9 : decode cX3_refusal 9 = .ok (.ireturn, 1) := by decide +kernel
theorem dX3_refusal_10 : decode cX3_refusal 10 = .ok (.aload_n 0, 1) := by decide +kernel
theorem dX3_refusal_11 : decode cX3_refusal 11 = .ok (.getfield 19, 3) := by decide +kernel
theorem dX3_refusal_14 : decode cX3_refusal 14 = .ok (.iload_n 1, 1) := by decide +kernel
theorem dX3_refusal_15 : decode cX3_refusal 15 = .ok (.if_icmp .eq 6, 3) := by decide +kernel
theorem dX3_refusal_18 : decode cX3_refusal 18 = .ok (.bipush (-12), 2) := by decide +kernel
theorem dX3_refusal_20 : decode cX3_refusal 20 = .ok (.ireturn, 1) := by decide +kernel
theorem dX3_refusal_21 : decode cX3_refusal 21 = .ok (.aload_n 0, 1) := by decide +kernel
theorem dX3_refusal_22 : decode cX3_refusal 22 = .ok (.iload_n 2, 1) := by decide +kernel
theorem dX3_refusal_23 : decode cX3_refusal 23 = .ok (.iload_n 3, 1) := by decide +kernel
theorem dX3_refusal_24 : decode cX3_refusal 24 = .ok (.invokevirtual 32, 3) := by decide +kernel
theorem dX3_refusal_27 : decode cX3_refusal 27 = .ok (.ifCond .eq 7, 3) := by decide +kernel
theorem dX3_refusal_30 : decode cX3_refusal 30 = .ok (.iconst 0, 1) := by decide +kernel
theorem dX3_refusal_31 : decode cX3_refusal 31 = .ok (.goto 5, 3) := by decide +kernel
theorem dX3_refusal_34 : decode cX3_refusal 34 = .ok (.bipush (-13), 2) := by decide +kernel
theorem dX3_refusal_36 : decode cX3_refusal 36 = .ok (.ireturn, 1) := by decide +kernel
theorem dX4_init_0 : decode cX4_init 0 = .ok (.aload_n 0, 1) := by decide +kernel
theorem dX4_init_1 : decode cX4_init 1 = .ok (.invokespecial 3, 3) := by decide +kernel
theorem dX4_init_4 : decode cX4_init 4 = .ok (.aload_n 0, 1) := by decide +kernel
theorem dX4_init_5 : decode cX4_init 5 = .ok (.bipush 80, 2) := by decide +kernel
theorem dX4_init_7 : decode cX4_init 7 = .ok (.newarray .int, 2) := by decide +kernel
theorem dX4_init_9 : decode cX4_init 9 = .ok (.putfield 9, 3) := by decide +kernel
theorem dX4_init_12 : decode cX4_init 12 = .ok (.return_, 1) := by decide +kernel
theorem dX4_isPrintable_0 : decode cX4_isPrintable 0 = .ok (.iconst 0, 1) := by decide +kernel
theorem dX4_isPrintable_1 : decode cX4_isPrintable 1 = .ok (.istore_n 3, 1) := by decide +kernel
theorem dX4_isPrintable_2 : decode cX4_isPrintable 2 = .ok (.iload_n 3, 1) := by decide +kernel
theorem dX4_isPrintable_3 : decode cX4_isPrintable 3 = .ok (.iload_n 2, 1) := by decide +kernel
theorem dX4_isPrintable_4 : decode cX4_isPrintable 4 = .ok (.if_icmp .ge 32, 3) := by decide +kernel
theorem dX4_isPrintable_7 : decode cX4_isPrintable 7 = .ok (.lload_n 0, 1) := by decide +kernel
theorem dX4_isPrintable_8 : decode cX4_isPrintable 8 = .ok (.bipush 8, 2) := by decide +kernel
theorem dX4_isPrintable_10 : decode cX4_isPrintable 10 = .ok (.iload_n 3, 1) := by decide +kernel
theorem dX4_isPrintable_11 : decode cX4_isPrintable 11 = .ok (.imul, 1) := by decide +kernel
theorem dX4_isPrintable_12 : decode cX4_isPrintable 12 = .ok (.lshr, 1) := by decide +kernel
theorem dX4_isPrintable_13 : decode cX4_isPrintable 13 = .ok (.ldc2_w 15, 3) := by decide +kernel
theorem dX4_isPrintable_16 : decode cX4_isPrintable 16 = .ok (.land, 1) := by decide +kernel
theorem dX4_isPrintable_17 : decode cX4_isPrintable 17 = .ok (.l2i, 1) := by decide +kernel
theorem dX4_isPrintable_18 : decode cX4_isPrintable 18 = .ok (.bipush 32, 2) := by decide +kernel
theorem dX4_isPrintable_20 : decode cX4_isPrintable 20 = .ok (.bipush 126, 2) := by decide +kernel
theorem dX4_isPrintable_22 : decode cX4_isPrintable 22 = .ok (.invokestatic 17, 3) := by decide +kernel
theorem dX4_isPrintable_25 : decode cX4_isPrintable 25 = .ok (.ifCond .ne 5, 3) := by decide +kernel
theorem dX4_isPrintable_28 : decode cX4_isPrintable 28 = .ok (.iconst 0, 1) := by decide +kernel
theorem dX4_isPrintable_29 : decode cX4_isPrintable 29 = .ok (.ireturn, 1) := by decide +kernel
theorem dX4_isPrintable_30 : decode cX4_isPrintable 30 = .ok (.iinc 3 1, 3) := by decide +kernel
theorem dX4_isPrintable_33 : decode cX4_isPrintable 33 = .ok (.goto (-31), 3) := by decide +kernel
theorem dX4_isPrintable_36 : decode cX4_isPrintable 36 = .ok (.iconst 1, 1) := by decide +kernel
theorem dX4_isPrintable_37 : decode cX4_isPrintable 37 = .ok (.ireturn, 1) := by decide +kernel
theorem dX4_append_0 : decode cX4_append 0 = .ok (.iload_n 3, 1) := by decide +kernel
theorem dX4_append_1 : decode cX4_append 1 = .ok (.iconst 1, 1) := by decide +kernel
theorem dX4_append_2 : decode cX4_append 2 = .ok (.isub, 1) := by decide +kernel
theorem dX4_append_3 : decode cX4_append 3 = .ok (.istore 4, 2) := by decide +kernel
theorem dX4_append_5 : decode cX4_append 5 = .ok (.iload 4, 2) := by decide +kernel
theorem dX4_append_7 : decode cX4_append 7 = .ok (.ifCond .lt 49, 3) := by decide +kernel
theorem dX4_append_10 : decode cX4_append 10 = .ok (.aload_n 0, 1) := by decide +kernel
theorem dX4_append_11 : decode cX4_append 11 = .ok (.getfield 21, 3) := by decide +kernel
theorem dX4_append_14 : decode cX4_append 14 = .ok (.bipush 80, 2) := by decide +kernel
theorem dX4_append_16 : decode cX4_append 16 = .ok (.if_icmp .ge 40, 3) := by decide +kernel
theorem dX4_append_19 : decode cX4_append 19 = .ok (.aload_n 0, 1) := by decide +kernel
theorem dX4_append_20 : decode cX4_append 20 = .ok (.getfield 9, 3) := by decide +kernel
theorem dX4_append_23 : decode cX4_append 23 = .ok (.aload_n 0, 1) := by decide +kernel
theorem dX4_append_24 : decode cX4_append 24 = .ok (.getfield 21, 3) := by decide +kernel
theorem dX4_append_27 : decode cX4_append 27 = .ok (.lload_n 1, 1) := by decide +kernel
theorem dX4_append_28 : decode cX4_append 28 = .ok (.bipush 8, 2) := by decide +kernel
theorem dX4_append_30 : decode cX4_append 30 = .ok (.iload 4, 2) := by decide +kernel
theorem dX4_append_32 : decode cX4_append 32 = .ok (.imul, 1) := by decide +kernel
theorem dX4_append_33 : decode cX4_append 33 = .ok (.lshr, 1) := by decide +kernel
theorem dX4_append_34 : decode cX4_append 34 = .ok (.ldc2_w 15, 3) := by decide +kernel
theorem dX4_append_37 : decode cX4_append 37 = .ok (.land, 1) := by decide +kernel
theorem dX4_append_38 : decode cX4_append 38 = .ok (.l2i, 1) := by decide +kernel
theorem dX4_append_39 : decode cX4_append 39 = .ok (.iastore, 1) := by decide +kernel
theorem dX4_append_40 : decode cX4_append 40 = .ok (.aload_n 0, 1) := by decide +kernel
theorem dX4_append_41 : decode cX4_append 41 = .ok (.dup, 1) := by decide +kernel
theorem dX4_append_42 : decode cX4_append 42 = .ok (.getfield 21, 3) := by decide +kernel
theorem dX4_append_45 : decode cX4_append 45 = .ok (.iconst 1, 1) := by decide +kernel
theorem dX4_append_46 : decode cX4_append 46 = .ok (.iadd, 1) := by decide +kernel
theorem dX4_append_47 : decode cX4_append 47 = .ok (.putfield 21, 3) := by decide +kernel
theorem dX4_append_50 : decode cX4_append 50 = .ok (.iinc 4 (-1), 3) := by decide +kernel
theorem dX4_append_53 : decode cX4_append 53 = .ok (.goto (-48), 3) := by decide +kernel
theorem dX4_append_56 : decode cX4_append 56 = .ok (.return_, 1) := by decide +kernel
theorem dX4_readCoats_0 : decode cX4_readCoats 0 = .ok (.aload_n 0, 1) := by decide +kernel
theorem dX4_readCoats_1 : decode cX4_readCoats 1 = .ok (.iconst 0, 1) := by decide +kernel
theorem dX4_readCoats_2 : decode cX4_readCoats 2 = .ok (.putfield 25, 3) := by decide +kernel
theorem dX4_readCoats_5 : decode cX4_readCoats 5 = .ok (.aload_n 1, 1) := by decide +kernel
theorem dX4_readCoats_6 : decode cX4_readCoats 6 = .ok (.iconst 0, 1) := by decide +kernel
theorem dX4_readCoats_7 : decode cX4_readCoats 7 = .ok (.putfield 28, 3) := by decide +kernel
theorem dX4_readCoats_10 : decode cX4_readCoats 10 = .ok (.iconst 1, 1) := by decide +kernel
theorem dX4_readCoats_11 : decode cX4_readCoats 11 = .ok (.istore_n 2, 1) := by decide +kernel
theorem dX4_readCoats_12 : decode cX4_readCoats 12 = .ok (.iload_n 2, 1) := by decide +kernel
theorem dX4_readCoats_13 : decode cX4_readCoats 13 = .ok (.bipush 6, 2) := by decide +kernel
theorem dX4_readCoats_15 : decode cX4_readCoats 15 = .ok (.if_icmp .gt 50, 3) := by decide +kernel
theorem dX4_readCoats_18 : decode cX4_readCoats 18 = .ok (.aload_n 0, 1) := by decide +kernel
theorem dX4_readCoats_19 : decode cX4_readCoats 19 = .ok (.aload_n 1, 1) := by decide +kernel
theorem dX4_readCoats_20 : decode cX4_readCoats 20 = .ok (.invokevirtual 33, 3) := by decide +kernel
theorem dX4_readCoats_23 : decode cX4_readCoats 23 = .ok (.ifCond .ne 6, 3) := by decide +kernel
theorem dX4_readCoats_26 : decode cX4_readCoats 26 = .ok (.goto 39, 3) := by decide +kernel
theorem dX4_readCoats_29 : decode cX4_readCoats 29 = .ok (.aload_n 0, 1) := by decide +kernel
theorem dX4_readCoats_30 : decode cX4_readCoats 30 = .ok (.invokevirtual 37, 3) := by decide +kernel
theorem dX4_readCoats_33 : decode cX4_readCoats 33 = .ok (.ifCond .ge 8, 3) := by decide +kernel
theorem dX4_readCoats_36 : decode cX4_readCoats 36 = .ok (.aload_n 1, 1) := by decide +kernel
theorem dX4_readCoats_37 : decode cX4_readCoats 37 = .ok (.getfield 28, 3) := by decide +kernel
theorem dX4_readCoats_40 : decode cX4_readCoats 40 = .ok (.ireturn, 1) := by decide +kernel
theorem dX4_readCoats_41 : decode cX4_readCoats 41 = .ok (.iload_n 2, 1) := by decide +kernel
theorem dX4_readCoats_42 : decode cX4_readCoats 42 = .ok (.bipush 6, 2) := by decide +kernel
theorem dX4_readCoats_44 : decode cX4_readCoats 44 = .ok (.if_icmp .eq 21, 3) := by decide +kernel
theorem dX4_readCoats_47 : decode cX4_readCoats 47 = .ok (.aload_n 0, 1) := by decide +kernel
theorem dX4_readCoats_48 : decode cX4_readCoats 48 = .ok (.bipush 59, 2) := by decide +kernel
theorem dX4_readCoats_50 : decode cX4_readCoats 50 = .ok (.invokevirtual 41, 3) := by decide +kernel
theorem dX4_readCoats_53 : decode cX4_readCoats 53 = .ok (.ifCond .ne 6, 3) := by decide +kernel
theorem dX4_readCoats_56 : decode cX4_readCoats 56 = .ok (.goto 9, 3) := by decide +kernel
theorem dX4_readCoats_59 : decode cX4_readCoats 59 = .ok (.iinc 2 1, 3) := by decide +kernel
theorem dX4_readCoats_62 : decode cX4_readCoats 62 = .ok (.goto (-50), 3) := by decide +kernel
theorem dX4_readCoats_65 : decode cX4_readCoats 65 = .ok (.bipush (-20), 2) := by decide +kernel
theorem dX4_readCoats_67 : decode cX4_readCoats 67 = .ok (.aload_n 0, 1) := by decide +kernel
theorem dX4_readCoats_68 : decode cX4_readCoats 68 = .ok (.getfield 25, 3) := by decide +kernel
theorem dX4_readCoats_71 : decode cX4_readCoats 71 = .ok (.isub, 1) := by decide +kernel
theorem dX4_readCoats_72 : decode cX4_readCoats 72 = .ok (.ireturn, 1) := by decide +kernel
theorem dX4_readCoat_0 : decode cX4_readCoat 0 = .ok (.aload_n 0, 1) := by decide +kernel
theorem dX4_readCoat_1 : decode cX4_readCoat 1 = .ok (.invokevirtual 37, 3) := by decide +kernel
theorem dX4_readCoat_4 : decode cX4_readCoat 4 = .ok (.bipush 97, 2) := by decide +kernel
theorem dX4_readCoat_6 : decode cX4_readCoat 6 = .ok (.isub, 1) := by decide +kernel
theorem dX4_readCoat_7 : decode cX4_readCoat 7 = .ok (.istore_n 2, 1) := by decide +kernel
theorem dX4_readCoat_8 : decode cX4_readCoat 8 = .ok (.iload_n 2, 1) := by decide +kernel
theorem dX4_readCoat_9 : decode cX4_readCoat 9 = .ok (.invokestatic 45, 3) := by decide +kernel
theorem dX4_readCoat_12 : decode cX4_readCoat 12 = .ok (.ifCond .ne 5, 3) := by decide +kernel
theorem dX4_readCoat_15 : decode cX4_readCoat 15 = .ok (.iconst 0, 1) := by decide +kernel
theorem dX4_readCoat_16 : decode cX4_readCoat 16 = .ok (.ireturn, 1) := by decide +kernel
theorem dX4_readCoat_17 : decode cX4_readCoat 17 = .ok (.aload_n 0, 1) := by decide +kernel
theorem dX4_readCoat_18 : decode cX4_readCoat 18 = .ok (.dup, 1) := by decide +kernel
theorem dX4_readCoat_19 : decode cX4_readCoat 19 = .ok (.getfield 25, 3) := by decide +kernel
theorem dX4_readCoat_22 : decode cX4_readCoat 22 = .ok (.iconst 1, 1) := by decide +kernel
theorem dX4_readCoat_23 : decode cX4_readCoat 23 = .ok (.iadd, 1) := by decide +kernel
theorem dX4_readCoat_24 : decode cX4_readCoat 24 = .ok (.putfield 25, 3) := by decide +kernel
theorem dX4_readCoat_27 : decode cX4_readCoat 27 = .ok (.aload_n 0, 1) := by decide +kernel
theorem dX4_readCoat_28 : decode cX4_readCoat 28 = .ok (.iconst 1, 1) := by decide +kernel
theorem dX4_readCoat_29 : decode cX4_readCoat 29 = .ok (.sipush 9999, 3) := by decide +kernel
theorem dX4_readCoat_32 : decode cX4_readCoat 32 = .ok (.invokevirtual 48, 3) := by decide +kernel
theorem dX4_readCoat_35 : decode cX4_readCoat 35 = .ok (.istore_n 3, 1) := by decide +kernel
theorem dX4_readCoat_36 : decode cX4_readCoat 36 = .ok (.iload_n 3, 1) := by decide +kernel
theorem dX4_readCoat_37 : decode cX4_readCoat 37 = .ok (.ifCond .ge 5, 3) := by decide +kernel
theorem dX4_readCoat_40 : decode cX4_readCoat 40 = .ok (.iconst 0, 1) := by decide +kernel
theorem dX4_readCoat_41 : decode cX4_readCoat 41 = .ok (.ireturn, 1) := by decide +kernel
theorem dX4_readCoat_42 : decode cX4_readCoat 42 = .ok (.aload_n 0, 1) := by decide +kernel
theorem dX4_readCoat_43 : decode cX4_readCoat 43 = .ok (.bipush 114, 2) := by decide +kernel
theorem dX4_readCoat_45 : decode cX4_readCoat 45 = .ok (.invokevirtual 41, 3) := by decide +kernel
theorem dX4_readCoat_48 : decode cX4_readCoat 48 = .ok (.ifCond .eq 13, 3) := by decide +kernel
theorem dX4_readCoat_51 : decode cX4_readCoat 51 = .ok (.aload_n 0, 1) := by decide +kernel
theorem dX4_readCoat_52 : decode cX4_readCoat 52 = .ok (.iconst 0, 1) := by decide +kernel
theorem dX4_readCoat_53 : decode cX4_readCoat 53 = .ok (.bipush 20, 2) := by decide +kernel
theorem dX4_readCoat_55 : decode cX4_readCoat 55 = .ok (.invokevirtual 48, 3) := by decide +kernel
theorem dX4_readCoat_58 : decode cX4_readCoat 58 = .ok (.goto 4, 3) := by decide +kernel
theorem dX4_readCoat_61 : decode cX4_readCoat 61 = .ok (.iconst 0, 1) := by decide +kernel
theorem dX4_readCoat_62 : decode cX4_readCoat 62 = .ok (.istore 4, 2) := by decide +kernel
theorem dX4_readCoat_64 : decode cX4_readCoat 64 = .ok (.iload 4, 2) := by decide +kernel
theorem dX4_readCoat_66 : decode cX4_readCoat 66 = .ok (.ifCond .ge 5, 3) := by decide +kernel
theorem dX4_readCoat_69 : decode cX4_readCoat 69 = .ok (.iconst 0, 1) := by decide +kernel
theorem dX4_readCoat_70 : decode cX4_readCoat 70 = .ok (.ireturn, 1) := by decide +kernel
theorem dX4_readCoat_71 : decode cX4_readCoat 71 = .ok (.aload_n 0, 1) := by decide +kernel
theorem dX4_readCoat_72 : decode cX4_readCoat 72 = .ok (.bipush 116, 2) := by decide +kernel
theorem dX4_readCoat_74 : decode cX4_readCoat 74 = .ok (.invokevirtual 41, 3) := by decide +kernel
theorem dX4_readCoat_77 : decode cX4_readCoat 77 = .ok (.ifCond .eq 10, 3) := by decide +kernel
theorem dX4_readCoat_80 : decode cX4_readCoat 80 = .ok (.aload_n 0, 1) := by decide +kernel
theorem dX4_readCoat_81 : decode cX4_readCoat 81 = .ok (.invokevirtual 52, 3) := by decide +kernel
theorem dX4_readCoat_84 : decode cX4_readCoat 84 = .ok (.goto 4, 3) := by decide +kernel
theorem dX4_readCoat_87 : decode cX4_readCoat 87 = .ok (.iconst 1, 1) := by decide +kernel
theorem dX4_readCoat_88 : decode cX4_readCoat 88 = .ok (.istore 5, 2) := by decide +kernel
theorem dX4_readCoat_90 : decode cX4_readCoat 90 = .ok (.iload 5, 2) := by decide +kernel
theorem dX4_readCoat_92 : decode cX4_readCoat 92 = .ok (.ifCond .ge 5, 3) := by decide +kernel
theorem dX4_readCoat_95 : decode cX4_readCoat 95 = .ok (.iconst 0, 1) := by decide +kernel
theorem dX4_readCoat_96 : decode cX4_readCoat 96 = .ok (.ireturn, 1) := by decide +kernel
theorem dX4_readCoat_97 : decode cX4_readCoat 97 = .ok (.aload_n 1, 1) := by decide +kernel
theorem dX4_readCoat_98 : decode cX4_readCoat 98 = .ok (.iload_n 2, 1) := by decide +kernel
theorem dX4_readCoat_99 : decode cX4_readCoat 99 = .ok (.iload_n 3, 1) := by decide +kernel
theorem dX4_readCoat_100 : decode cX4_readCoat 100 = .ok (.iload 4, 2) := by decide +kernel
theorem dX4_readCoat_102 : decode cX4_readCoat 102 = .ok (.iload 5, 2) := by decide +kernel
theorem dX4_readCoat_104 : decode cX4_readCoat 104 = .ok (.invokevirtual 55, 3) := by decide +kernel
theorem dX4_readCoat_107 : decode cX4_readCoat 107 = .ok (.iconst 1, 1) := by decide +kernel
theorem dX4_readCoat_108 : decode cX4_readCoat 108 = .ok (.ireturn, 1) := by decide +kernel
theorem dX4_nextByte_0 : decode cX4_nextByte 0 = .ok (.aload_n 0, 1) := by decide +kernel
theorem dX4_nextByte_1 : decode cX4_nextByte 1 = .ok (.getfield 25, 3) := by decide +kernel
theorem dX4_nextByte_4 : decode cX4_nextByte 4 = .ok (.aload_n 0, 1) := by decide +kernel
theorem dX4_nextByte_5 : decode cX4_nextByte 5 = .ok (.getfield 21, 3) := by decide +kernel
theorem dX4_nextByte_8 : decode cX4_nextByte 8 = .ok (.if_icmp .ge 30, 3) := by decide +kernel
theorem dX4_nextByte_11 : decode cX4_nextByte 11 = .ok (.aload_n 0, 1) := by decide +kernel
theorem dX4_nextByte_12 : decode cX4_nextByte 12 = .ok (.getfield 9, 3) := by decide +kernel
theorem dX4_nextByte_15 : decode cX4_nextByte 15 = .ok (.aload_n 0, 1) := by decide +kernel
theorem dX4_nextByte_16 : decode cX4_nextByte 16 = .ok (.getfield 25, 3) := by decide +kernel
theorem dX4_nextByte_19 : decode cX4_nextByte 19 = .ok (.iaload, 1) := by decide +kernel
theorem dX4_nextByte_20 : decode cX4_nextByte 20 = .ok (.bipush 32, 2) := by decide +kernel
theorem dX4_nextByte_22 : decode cX4_nextByte 22 = .ok (.if_icmp .ne 16, 3) := by decide +kernel
theorem dX4_nextByte_25 : decode cX4_nextByte 25 = .ok (.aload_n 0, 1) := by decide +kernel
theorem dX4_nextByte_26 : decode cX4_nextByte 26 = .ok (.dup, 1) := by decide +kernel
theorem dX4_nextByte_27 : decode cX4_nextByte 27 = .ok (.getfield 25, 3) := by decide +kernel
theorem dX4_nextByte_30 : decode cX4_nextByte 30 = .ok (.iconst 1, 1) := by decide +kernel
theorem dX4_nextByte_31 : decode cX4_nextByte 31 = .ok (.iadd, 1) := by decide +kernel
theorem dX4_nextByte_32 : decode cX4_nextByte 32 = .ok (.putfield 25, 3) := by decide +kernel
theorem dX4_nextByte_35 : decode cX4_nextByte 35 = .ok (.goto (-35), 3) := by decide +kernel
theorem dX4_nextByte_38 : decode cX4_nextByte 38 = .ok (.aload_n 0, 1) := by decide +kernel
theorem dX4_nextByte_39 : decode cX4_nextByte 39 = .ok (.getfield 25, 3) := by decide +kernel
theorem dX4_nextByte_42 : decode cX4_nextByte 42 = .ok (.aload_n 0, 1) := by decide +kernel
theorem dX4_nextByte_43 : decode cX4_nextByte 43 = .ok (.getfield 21, 3) := by decide +kernel
theorem dX4_nextByte_46 : decode cX4_nextByte 46 = .ok (.if_icmp .ge 15, 3) := by decide +kernel
theorem dX4_nextByte_49 : decode cX4_nextByte 49 = .ok (.aload_n 0, 1) := by decide +kernel
theorem dX4_nextByte_50 : decode cX4_nextByte 50 = .ok (.getfield 9, 3) := by decide +kernel
theorem dX4_nextByte_53 : decode cX4_nextByte 53 = .ok (.aload_n 0, 1) := by decide +kernel
theorem dX4_nextByte_54 : decode cX4_nextByte 54 = .ok (.getfield 25, 3) := by decide +kernel
theorem dX4_nextByte_57 : decode cX4_nextByte 57 = .ok (.iaload, 1) := by decide +kernel
theorem dX4_nextByte_58 : decode cX4_nextByte 58 = .ok (.goto 4, 3) := by decide +kernel
theorem dX4_nextByte_61 : decode cX4_nextByte 61 = .ok (.iconst (-1), 1) := by decide +kernel
theorem dX4_nextByte_62 : decode cX4_nextByte 62 = .ok (.ireturn, 1) := by decide +kernel
theorem dX4_skipIf_0 : decode cX4_skipIf 0 = .ok (.aload_n 0, 1) := by decide +kernel
theorem dX4_skipIf_1 : decode cX4_skipIf 1 = .ok (.invokevirtual 37, 3) := by decide +kernel
theorem dX4_skipIf_4 : decode cX4_skipIf 4 = .ok (.iload_n 1, 1) := by decide +kernel
theorem dX4_skipIf_5 : decode cX4_skipIf 5 = .ok (.if_icmp .eq 5, 3) := by decide +kernel
theorem dX4_skipIf_8 : decode cX4_skipIf 8 = .ok (.iconst 0, 1) := by decide +kernel
theorem dX4_skipIf_9 : decode cX4_skipIf 9 = .ok (.ireturn, 1) := by decide +kernel
theorem dX4_skipIf_10 : decode cX4_skipIf 10 = .ok (.aload_n 0, 1) := by decide +kernel
theorem dX4_skipIf_11 : decode cX4_skipIf 11 = .ok (.dup, 1) := by decide +kernel
theorem dX4_skipIf_12 : decode cX4_skipIf 12 = .ok (.getfield 25, 3) := by decide +kernel
theorem dX4_skipIf_15 : decode cX4_skipIf 15 = .ok (.iconst 1, 1) := by decide +kernel
theorem dX4_skipIf_16 : decode cX4_skipIf 16 = .ok (.iadd, 1) := by decide +kernel
theorem dX4_skipIf_17 : decode cX4_skipIf 17 = .ok (.putfield 25, 3) := by decide +kernel
theorem dX4_skipIf_20 : decode cX4_skipIf 20 = .ok (.iconst 1, 1) := by decide +kernel
theorem dX4_skipIf_21 : decode cX4_skipIf 21 = .ok (.ireturn, 1) := by decide +kernel
theorem dX4_readNumber_0 : decode cX4_readNumber 0 = .ok (.aload_n 0, 1) := by decide +kernel
theorem dX4_readNumber_1 : decode cX4_readNumber 1 = .ok (.invokevirtual 37, 3) := by decide +kernel
theorem dX4_readNumber_4 : decode cX4_readNumber 4 = .ok (.pop, 1) := by decide +kernel
theorem dX4_readNumber_5 : decode cX4_readNumber 5 = .ok (.aload_n 0, 1) := by decide +kernel
theorem dX4_readNumber_6 : decode cX4_readNumber 6 = .ok (.getfield 25, 3) := by decide +kernel
theorem dX4_readNumber_9 : decode cX4_readNumber 9 = .ok (.istore_n 3, 1) := by decide +kernel
theorem dX4_readNumber_10 : decode cX4_readNumber 10 = .ok (.iconst 0, 1) := by decide +kernel
theorem dX4_readNumber_11 : decode cX4_readNumber 11 = .ok (.istore 4, 2) := by decide +kernel
theorem dX4_readNumber_13 : decode cX4_readNumber 13 = .ok (.aload_n 0, 1) := by decide +kernel
theorem dX4_readNumber_14 : decode cX4_readNumber 14 = .ok (.getfield 25, 3) := by decide +kernel
theorem dX4_readNumber_17 : decode cX4_readNumber 17 = .ok (.aload_n 0, 1) := by decide +kernel
theorem dX4_readNumber_18 : decode cX4_readNumber 18 = .ok (.getfield 21, 3) := by decide +kernel
theorem dX4_readNumber_21 : decode cX4_readNumber 21 = .ok (.if_icmp .ge 60, 3) := by decide +kernel
theorem dX4_readNumber_24 : decode cX4_readNumber 24 = .ok (.aload_n 0, 1) := by decide +kernel
theorem dX4_readNumber_25 : decode cX4_readNumber 25 = .ok (.getfield 9, 3) := by decide +kernel
theorem dX4_readNumber_28 : decode cX4_readNumber 28 = .ok (.aload_n 0, 1) := by decide +kernel
theorem dX4_readNumber_29 : decode cX4_readNumber 29 = .ok (.getfield 25, 3) := by decide +kernel
theorem dX4_readNumber_32 : decode cX4_readNumber 32 = .ok (.iaload, 1) := by decide +kernel
theorem dX4_readNumber_33 : decode cX4_readNumber 33 = .ok (.bipush 48, 2) := by decide +kernel
theorem dX4_readNumber_35 : decode cX4_readNumber 35 = .ok (.bipush 57, 2) := by decide +kernel
theorem dX4_readNumber_37 : decode cX4_readNumber 37 = .ok (.invokestatic 17, 3) := by decide +kernel
theorem dX4_readNumber_40 : decode cX4_readNumber 40 = .ok (.ifCond .eq 41, 3) := by decide +kernel
theorem dX4_readNumber_43 : decode cX4_readNumber 43 = .ok (.iload 4, 2) := by decide +kernel
theorem dX4_readNumber_45 : decode cX4_readNumber 45 = .ok (.bipush 10, 2) := by decide +kernel
theorem dX4_readNumber_47 : decode cX4_readNumber 47 = .ok (.imul, 1) := by decide +kernel
theorem dX4_readNumber_48 : decode cX4_readNumber 48 = .ok (.aload_n 0, 1) := by decide +kernel
theorem dX4_readNumber_49 : decode cX4_readNumber 49 = .ok (.getfield 9, 3) := by decide +kernel
theorem dX4_readNumber_52 : decode cX4_readNumber 52 = .ok (.aload_n 0, 1) := by decide +kernel
theorem dX4_readNumber_53 : decode cX4_readNumber 53 = .ok (.getfield 25, 3) := by decide +kernel
theorem dX4_readNumber_56 : decode cX4_readNumber 56 = .ok (.iaload, 1) := by decide +kernel
theorem dX4_readNumber_57 : decode cX4_readNumber 57 = .ok (.iadd, 1) := by decide +kernel
theorem dX4_readNumber_58 : decode cX4_readNumber 58 = .ok (.bipush 48, 2) := by decide +kernel
theorem dX4_readNumber_60 : decode cX4_readNumber 60 = .ok (.isub, 1) := by decide +kernel
theorem dX4_readNumber_61 : decode cX4_readNumber 61 = .ok (.ldc 59, 2) := by decide +kernel
theorem dX4_readNumber_63 : decode cX4_readNumber 63 = .ok (.invokestatic 60, 3) := by decide +kernel
theorem dX4_readNumber_66 : decode cX4_readNumber 66 = .ok (.istore 4, 2) := by decide +kernel
theorem dX4_readNumber_68 : decode cX4_readNumber 68 = .ok (.aload_n 0, 1) := by decide +kernel
theorem dX4_readNumber_69 : decode cX4_readNumber 69 = .ok (.dup, 1) := by decide +kernel
theorem dX4_readNumber_70 : decode cX4_readNumber 70 = .ok (.getfield 25, 3) := by decide +kernel
theorem dX4_readNumber_73 : decode cX4_readNumber 73 = .ok (.iconst 1, 1) := by decide +kernel
theorem dX4_readNumber_74 : decode cX4_readNumber 74 = .ok (.iadd, 1) := by decide +kernel
theorem dX4_readNumber_75 : decode cX4_readNumber 75 = .ok (.putfield 25, 3) := by decide +kernel
theorem dX4_readNumber_78 : decode cX4_readNumber 78 = .ok (.goto (-65), 3) := by decide +kernel
theorem dX4_readNumber_81 : decode cX4_readNumber 81 = .ok (.aload_n 0, 1) := by decide +kernel
theorem dX4_readNumber_82 : decode cX4_readNumber 82 = .ok (.getfield 25, 3) := by decide +kernel
theorem dX4_readNumber_85 : decode cX4_readNumber 85 = .ok (.iload_n 3, 1) := by decide +kernel
theorem dX4_readNumber_86 : decode cX4_readNumber 86 = .ok (.if_icmp .le 16, 3) := by decide +kernel
theorem dX4_readNumber_89 : decode cX4_readNumber 89 = .ok (.iload 4, 2) := by decide +kernel
theorem dX4_readNumber_91 : decode cX4_readNumber 91 = .ok (.iload_n 1, 1) := by decide +kernel
theorem dX4_readNumber_92 : decode cX4_readNumber 92 = .ok (.iload_n 2, 1) := by decide +kernel
theorem dX4_readNumber_93 : decode cX4_readNumber 93 = .ok (.invokestatic 17, 3) := by decide +kernel
theorem dX4_readNumber_96 : decode cX4_readNumber 96 = .ok (.ifCond .eq 6, 3) := by decide +kernel
theorem dX4_readNumber_99 : decode cX4_readNumber 99 = .ok (.iload 4, 2) := by decide +kernel
theorem dX4_readNumber_101 : decode cX4_readNumber 101 = .ok (.ireturn, 1) := by decide +kernel
theorem dX4_readNumber_102 : decode cX4_readNumber 102 = .ok (.aload_n 0, 1) := by decide +kernel
theorem dX4_readNumber_103 : decode cX4_readNumber 103 = .ok (.iload_n 3, 1) := by decide +kernel
theorem dX4_readNumber_104 : decode cX4_readNumber 104 = .ok (.putfield 25, 3) := by decide +kernel
theorem dX4_readNumber_107 : decode cX4_readNumber 107 = .ok (.iconst (-1), 1) := by decide +kernel
theorem dX4_readNumber_108 : decode cX4_readNumber 108 = .ok (.ireturn, 1) := by decide +kernel
theorem dX4_readDigit_0 : decode cX4_readDigit 0 = .ok (.aload_n 0, 1) := by decide +kernel
theorem dX4_readDigit_1 : decode cX4_readDigit 1 = .ok (.invokevirtual 37, 3) := by decide +kernel
theorem dX4_readDigit_4 : decode cX4_readDigit 4 = .ok (.istore_n 1, 1) := by decide +kernel
theorem dX4_readDigit_5 : decode cX4_readDigit 5 = .ok (.iload_n 1, 1) := by decide +kernel
theorem dX4_readDigit_6 : decode cX4_readDigit 6 = .ok (.bipush 49, 2) := by decide +kernel
theorem dX4_readDigit_8 : decode cX4_readDigit 8 = .ok (.bipush 57, 2) := by decide +kernel
theorem dX4_readDigit_10 : decode cX4_readDigit 10 = .ok (.invokestatic 17, 3) := by decide +kernel
theorem dX4_readDigit_13 : decode cX4_readDigit 13 = .ok (.ifCond .ne 5, 3) := by decide +kernel
theorem dX4_readDigit_16 : decode cX4_readDigit 16 = .ok (.iconst (-1), 1) := by decide +kernel
theorem dX4_readDigit_17 : decode cX4_readDigit 17 = .ok (.ireturn, 1) := by decide +kernel
theorem dX4_readDigit_18 : decode cX4_readDigit 18 = .ok (.aload_n 0, 1) := by decide +kernel
theorem dX4_readDigit_19 : decode cX4_readDigit 19 = .ok (.dup, 1) := by decide +kernel
theorem dX4_readDigit_20 : decode cX4_readDigit 20 = .ok (.getfield 25, 3) := by decide +kernel
theorem dX4_readDigit_23 : decode cX4_readDigit 23 = .ok (.iconst 1, 1) := by decide +kernel
theorem dX4_readDigit_24 : decode cX4_readDigit 24 = .ok (.iadd, 1) := by decide +kernel
theorem dX4_readDigit_25 : decode cX4_readDigit 25 = .ok (.putfield 25, 3) := by decide +kernel
theorem dX4_readDigit_28 : decode cX4_readDigit 28 = .ok (.iload_n 1, 1) := by decide +kernel
theorem dX4_readDigit_29 : decode cX4_readDigit 29 = .ok (.bipush 48, 2) := by decide +kernel
theorem dX4_readDigit_31 : decode cX4_readDigit 31 = .ok (.isub, 1) := by decide +kernel
theorem dX4_readDigit_32 : decode cX4_readDigit 32 = .ok (.ireturn, 1) := by decide +kernel
theorem dX5_init_0 : decode cX5_init 0 = .ok (.aload_n 0, 1) := by decide +kernel
theorem dX5_init_1 : decode cX5_init 1 = .ok (.invokespecial 3, 3) := by decide +kernel
theorem dX5_init_4 : decode cX5_init 4 = .ok (.aload_n 0, 1) := by decide +kernel
theorem dX5_init_5 : decode cX5_init 5 = .ok (.iconst 5, 1) := by decide +kernel
theorem dX5_init_6 : decode cX5_init 6 = .ok (.anewarray 9, 3) := by decide +kernel
theorem dX5_init_9 : decode cX5_init 9 = .ok (.putfield 11, 3) := by decide +kernel
theorem dX5_init_12 : decode cX5_init 12 = .ok (.aload_n 0, 1) := by decide +kernel
theorem dX5_init_13 : decode cX5_init 13 = .ok (.bipush 12, 2) := by decide +kernel
theorem dX5_init_15 : decode cX5_init 15 = .ok (.newarray .int, 2) := by decide +kernel
theorem dX5_init_17 : decode cX5_init 17 = .ok (.putfield 17, 3) := by decide +kernel
theorem dX5_init_20 : decode cX5_init 20 = .ok (.aload_n 0, 1) := by decide +kernel
theorem dX5_init_21 : decode cX5_init 21 = .ok (.bipush 8, 2) := by decide +kernel
theorem dX5_init_23 : decode cX5_init 23 = .ok (.newarray .int, 2) := by decide +kernel
theorem dX5_init_25 : decode cX5_init 25 = .ok (.putfield 21, 3) := by decide +kernel
theorem dX5_init_28 : decode cX5_init 28 = .ok (.aload_n 0, 1) := by decide +kernel
theorem dX5_init_29 : decode cX5_init 29 = .ok (.bipush 8, 2) := by decide +kernel
theorem dX5_init_31 : decode cX5_init 31 = .ok (.newarray .int, 2) := by decide +kernel
theorem dX5_init_33 : decode cX5_init 33 = .ok (.putfield 24, 3) := by decide +kernel
theorem dX5_init_36 : decode cX5_init 36 = .ok (.iconst 0, 1) := by decide +kernel
theorem dX5_init_37 : decode cX5_init 37 = .ok (.istore_n 1, 1) := by decide +kernel
theorem dX5_init_38 : decode cX5_init 38 = .ok (.iload_n 1, 1) := by decide +kernel
theorem dX5_init_39 : decode cX5_init 39 = .ok (.iconst 5, 1) := by decide +kernel
theorem dX5_init_40 : decode cX5_init 40 = .ok (.if_icmp .ge 22, 3) := by decide +kernel
theorem dX5_init_43 : decode cX5_init 43 = .ok (.aload_n 0, 1) := by decide +kernel
theorem dX5_init_44 : decode cX5_init 44 = .ok (.getfield 11, 3) := by decide +kernel
theorem dX5_init_47 : decode cX5_init 47 = .ok (.iload_n 1, 1) := by decide +kernel
theorem dX5_init_48 : decode cX5_init 48 = .ok (.new 9, 3) := by decide +kernel
theorem dX5_init_51 : decode cX5_init 51 = .ok (.dup, 1) := by decide +kernel
theorem dX5_init_52 : decode cX5_init 52 = .ok (.invokespecial 27, 3) := by decide +kernel
theorem dX5_init_55 : decode cX5_init 55 = .ok (.aastore, 1) := by decide +kernel
theorem dX5_init_56 : decode cX5_init 56 = .ok (.iinc 1 1, 3) := by decide +kernel
theorem dX5_init_59 : decode cX5_init 59 = .ok (.goto (-21), 3) := by decide +kernel
theorem dX5_init_62 : decode cX5_init 62 = .ok (.return_, 1) := by decide +kernel
theorem dX5_becomeLike_0 : decode cX5_becomeLike 0 = .ok (.iconst 0, 1) := by decide +kernel
theorem dX5_becomeLike_1 : decode cX5_becomeLike 1 = .ok (.istore_n 2, 1) := by decide +kernel
theorem dX5_becomeLike_2 : decode cX5_becomeLike 2 = .ok (.iload_n 2, 1) := by decide +kernel
theorem dX5_becomeLike_3 : decode cX5_becomeLike 3 = .ok (.aload_n 1, 1) := by decide +kernel
theorem dX5_becomeLike_4 : decode cX5_becomeLike 4 = .ok (.getfield 28, 3) := by decide +kernel
theorem dX5_becomeLike_7 : decode cX5_becomeLike 7 = .ok (.if_icmp .ge 24, 3) := by decide +kernel
theorem dX5_becomeLike_10 : decode cX5_becomeLike 10 = .ok (.aload_n 0, 1) := by decide +kernel
theorem dX5_becomeLike_11 : decode cX5_becomeLike 11 = .ok (.getfield 11, 3) := by decide +kernel
theorem dX5_becomeLike_14 : decode cX5_becomeLike 14 = .ok (.iload_n 2, 1) := by decide +kernel
theorem dX5_becomeLike_15 : decode cX5_becomeLike 15 = .ok (.aaload, 1) := by decide +kernel
theorem dX5_becomeLike_16 : decode cX5_becomeLike 16 = .ok (.aload_n 1, 1) := by decide +kernel
theorem dX5_becomeLike_17 : decode cX5_becomeLike 17 = .ok (.getfield 11, 3) := by decide +kernel
theorem dX5_becomeLike_20 : decode cX5_becomeLike 20 = .ok (.iload_n 2, 1) := by decide +kernel
theorem dX5_becomeLike_21 : decode cX5_becomeLike 21 = .ok (.aaload, 1) := by decide +kernel
theorem dX5_becomeLike_22 : decode cX5_becomeLike 22 = .ok (.invokevirtual 32, 3) := by decide +kernel
theorem dX5_becomeLike_25 : decode cX5_becomeLike 25 = .ok (.iinc 2 1, 3) := by decide +kernel
theorem dX5_becomeLike_28 : decode cX5_becomeLike 28 = .ok (.goto (-26), 3) := by decide +kernel
theorem dX5_becomeLike_31 : decode cX5_becomeLike 31 = .ok (.aload_n 1, 1) := by decide +kernel
theorem dX5_becomeLike_32 : decode cX5_becomeLike 32 = .ok (.getfield 17, 3) := by decide +kernel
theorem dX5_becomeLike_35 : decode cX5_becomeLike 35 = .ok (.iconst 0, 1) := by decide +kernel
theorem dX5_becomeLike_36 : decode cX5_becomeLike 36 = .ok (.aload_n 0, 1) := by decide +kernel
theorem dX5_becomeLike_37 : decode cX5_becomeLike 37 = .ok (.getfield 17, 3) := by decide +kernel
theorem dX5_becomeLike_40 : decode cX5_becomeLike 40 = .ok (.iconst 0, 1) := by decide +kernel
theorem dX5_becomeLike_41 : decode cX5_becomeLike 41 = .ok (.bipush 12, 2) := by decide +kernel
theorem dX5_becomeLike_43 : decode cX5_becomeLike 43 = .ok (.invokestatic 36, 3) := by decide +kernel
theorem dX5_becomeLike_46 : decode cX5_becomeLike 46 = .ok (.aload_n 1, 1) := by decide +kernel
theorem dX5_becomeLike_47 : decode cX5_becomeLike 47 = .ok (.getfield 21, 3) := by decide +kernel
theorem dX5_becomeLike_50 : decode cX5_becomeLike 50 = .ok (.iconst 0, 1) := by decide +kernel
theorem dX5_becomeLike_51 : decode cX5_becomeLike 51 = .ok (.aload_n 0, 1) := by decide +kernel
theorem dX5_becomeLike_52 : decode cX5_becomeLike 52 = .ok (.getfield 21, 3) := by decide +kernel
theorem dX5_becomeLike_55 : decode cX5_becomeLike 55 = .ok (.iconst 0, 1) := by decide +kernel
theorem dX5_becomeLike_56 : decode cX5_becomeLike 56 = .ok (.bipush 8, 2) := by decide +kernel
theorem dX5_becomeLike_58 : decode cX5_becomeLike 58 = .ok (.invokestatic 36, 3) := by decide +kernel
theorem dX5_becomeLike_61 : decode cX5_becomeLike 61 = .ok (.aload_n 1, 1) := by decide +kernel
theorem dX5_becomeLike_62 : decode cX5_becomeLike 62 = .ok (.getfield 24, 3) := by decide +kernel
theorem dX5_becomeLike_65 : decode cX5_becomeLike 65 = .ok (.iconst 0, 1) := by decide +kernel
theorem dX5_becomeLike_66 : decode cX5_becomeLike 66 = .ok (.aload_n 0, 1) := by decide +kernel
theorem dX5_becomeLike_67 : decode cX5_becomeLike 67 = .ok (.getfield 24, 3) := by decide +kernel
theorem dX5_becomeLike_70 : decode cX5_becomeLike 70 = .ok (.iconst 0, 1) := by decide +kernel
theorem dX5_becomeLike_71 : decode cX5_becomeLike 71 = .ok (.bipush 8, 2) := by decide +kernel
theorem dX5_becomeLike_73 : decode cX5_becomeLike 73 = .ok (.invokestatic 36, 3) := by decide +kernel
theorem dX5_becomeLike_76 : decode cX5_becomeLike 76 = .ok (.aload_n 0, 1) := by decide +kernel
theorem dX5_becomeLike_77 : decode cX5_becomeLike 77 = .ok (.aload_n 1, 1) := by decide +kernel
theorem dX5_becomeLike_78 : decode cX5_becomeLike 78 = .ok (.getfield 28, 3) := by decide +kernel
theorem dX5_becomeLike_81 : decode cX5_becomeLike 81 = .ok (.putfield 28, 3) := by decide +kernel
theorem dX5_becomeLike_84 : decode cX5_becomeLike 84 = .ok (.aload_n 0, 1) := by decide +kernel
theorem dX5_becomeLike_85 : decode cX5_becomeLike 85 = .ok (.aload_n 1, 1) := by decide +kernel
theorem dX5_becomeLike_86 : decode cX5_becomeLike 86 = .ok (.getfield 42, 3) := by decide +kernel
theorem dX5_becomeLike_89 : decode cX5_becomeLike 89 = .ok (.putfield 42, 3) := by decide +kernel
theorem dX5_becomeLike_92 : decode cX5_becomeLike 92 = .ok (.aload_n 0, 1) := by decide +kernel
theorem dX5_becomeLike_93 : decode cX5_becomeLike 93 = .ok (.aload_n 1, 1) := by decide +kernel
theorem dX5_becomeLike_94 : decode cX5_becomeLike 94 = .ok (.getfield 45, 3) := by decide +kernel
theorem dX5_becomeLike_97 : decode cX5_becomeLike 97 = .ok (.putfield 45, 3) := by decide +kernel
theorem dX5_becomeLike_100 : decode cX5_becomeLike 100 = .ok (.aload_n 0, 1) := by decide +kernel
theorem dX5_becomeLike_101 : decode cX5_becomeLike 101 = .ok (.aload_n 1, 1) := by decide +kernel
theorem dX5_becomeLike_102 : decode cX5_becomeLike 102 = .ok (.getfield 48, 3) := by decide +kernel
theorem dX5_becomeLike_105 : decode cX5_becomeLike 105 = .ok (.putfield 48, 3) := by decide +kernel
theorem dX5_becomeLike_108 : decode cX5_becomeLike 108 = .ok (.aload_n 0, 1) := by decide +kernel
theorem dX5_becomeLike_109 : decode cX5_becomeLike 109 = .ok (.aload_n 1, 1) := by decide +kernel
theorem dX5_becomeLike_110 : decode cX5_becomeLike 110 = .ok (.getfield 51, 3) := by decide +kernel
theorem dX5_becomeLike_113 : decode cX5_becomeLike 113 = .ok (.putfield 51, 3) := by decide +kernel
theorem dX5_becomeLike_116 : decode cX5_becomeLike 116 = .ok (.aload_n 0, 1) := by decide +kernel
theorem dX5_becomeLike_117 : decode cX5_becomeLike 117 = .ok (.aload_n 1, 1) := by decide +kernel
theorem dX5_becomeLike_118 : decode cX5_becomeLike 118 = .ok (.getfield 54, 3) := by decide +kernel
theorem dX5_becomeLike_121 : decode cX5_becomeLike 121 = .ok (.putfield 54, 3) := by decide +kernel
theorem dX5_becomeLike_124 : decode cX5_becomeLike 124 = .ok (.return_, 1) := by decide +kernel
theorem dX5_hasPerson_0 : decode cX5_hasPerson 0 = .ok (.iload_n 1, 1) := by decide +kernel
theorem dX5_hasPerson_1 : decode cX5_hasPerson 1 = .ok (.iconst 0, 1) := by decide +kernel
theorem dX5_hasPerson_2 : decode cX5_hasPerson 2 = .ok (.aload_n 0, 1) := by decide +kernel
theorem dX5_hasPerson_3 : decode cX5_hasPerson 3 = .ok (.getfield 28, 3) := by decide +kernel
theorem dX5_hasPerson_6 : decode cX5_hasPerson 6 = .ok (.iconst 1, 1) := by decide +kernel
theorem dX5_hasPerson_7 : decode cX5_hasPerson 7 = .ok (.isub, 1) := by decide +kernel
theorem dX5_hasPerson_8 : decode cX5_hasPerson 8 = .ok (.invokestatic 57, 3) := by decide +kernel
theorem dX5_hasPerson_11 : decode cX5_hasPerson 11 = .ok (.ireturn, 1) := by decide +kernel
theorem dX5_hasCoat_0 : decode cX5_hasCoat 0 = .ok (.aload_n 0, 1) := by decide +kernel
theorem dX5_hasCoat_1 : decode cX5_hasCoat 1 = .ok (.iload_n 1, 1) := by decide +kernel
theorem dX5_hasCoat_2 : decode cX5_hasCoat 2 = .ok (.invokevirtual 61, 3) := by decide +kernel
theorem dX5_hasCoat_5 : decode cX5_hasCoat 5 = .ok (.ifCond .eq 26, 3) := by decide +kernel
theorem dX5_hasCoat_8 : decode cX5_hasCoat 8 = .ok (.iload_n 2, 1) := by decide +kernel
theorem dX5_hasCoat_9 : decode cX5_hasCoat 9 = .ok (.iconst 0, 1) := by decide +kernel
theorem dX5_hasCoat_10 : decode cX5_hasCoat 10 = .ok (.aload_n 0, 1) := by decide +kernel
theorem dX5_hasCoat_11 : decode cX5_hasCoat 11 = .ok (.getfield 11, 3) := by decide +kernel
theorem dX5_hasCoat_14 : decode cX5_hasCoat 14 = .ok (.iload_n 1, 1) := by decide +kernel
theorem dX5_hasCoat_15 : decode cX5_hasCoat 15 = .ok (.aaload, 1) := by decide +kernel
theorem dX5_hasCoat_16 : decode cX5_hasCoat 16 = .ok (.getfield 65, 3) := by decide +kernel
theorem dX5_hasCoat_19 : decode cX5_hasCoat 19 = .ok (.iconst 1, 1) := by decide +kernel
theorem dX5_hasCoat_20 : decode cX5_hasCoat 20 = .ok (.isub, 1) := by decide +kernel
theorem dX5_hasCoat_21 : decode cX5_hasCoat 21 = .ok (.invokestatic 57, 3) := by decide +kernel
theorem dX5_hasCoat_24 : decode cX5_hasCoat 24 = .ok (.ifCond .eq 7, 3) := by decide +kernel
theorem dX5_hasCoat_27 : decode cX5_hasCoat 27 = .ok (.iconst 1, 1) := by decide +kernel
theorem dX5_hasCoat_28 : decode cX5_hasCoat 28 = .ok (.goto 4, 3) := by decide +kernel
theorem dX5_hasCoat_31 : decode cX5_hasCoat 31 = .ok (.iconst 0, 1) := by decide +kernel
theorem dX5_hasCoat_32 : decode cX5_hasCoat 32 = .ok (.ireturn, 1) := by decide +kernel
theorem dX5_coatsOfAll_0 : decode cX5_coatsOfAll 0 = .ok (.iconst 0, 1) := by decide +kernel
theorem dX5_coatsOfAll_1 : decode cX5_coatsOfAll 1 = .ok (.istore_n 1, 1) := by decide +kernel
theorem dX5_coatsOfAll_2 : decode cX5_coatsOfAll 2 = .ok (.iconst 0, 1) := by decide +kernel
theorem dX5_coatsOfAll_3 : decode cX5_coatsOfAll 3 = .ok (.istore_n 2, 1) := by decide +kernel
theorem dX5_coatsOfAll_4 : decode cX5_coatsOfAll 4 = .ok (.iload_n 2, 1) := by decide +kernel
theorem dX5_coatsOfAll_5 : decode cX5_coatsOfAll 5 = .ok (.aload_n 0, 1) := by decide +kernel
theorem dX5_coatsOfAll_6 : decode cX5_coatsOfAll 6 = .ok (.getfield 28, 3) := by decide +kernel
theorem dX5_coatsOfAll_9 : decode cX5_coatsOfAll 9 = .ok (.if_icmp .ge 21, 3) := by decide +kernel
theorem dX5_coatsOfAll_12 : decode cX5_coatsOfAll 12 = .ok (.iload_n 1, 1) := by decide +kernel
theorem dX5_coatsOfAll_13 : decode cX5_coatsOfAll 13 = .ok (.aload_n 0, 1) := by decide +kernel
theorem dX5_coatsOfAll_14 : decode cX5_coatsOfAll 14 = .ok (.getfield 11, 3) := by decide +kernel
theorem dX5_coatsOfAll_17 : decode cX5_coatsOfAll 17 = .ok (.iload_n 2, 1) := by decide +kernel
theorem dX5_coatsOfAll_18 : decode cX5_coatsOfAll 18 = .ok (.aaload, 1) := by decide +kernel
theorem dX5_coatsOfAll_19 : decode cX5_coatsOfAll 19 = .ok (.getfield 65, 3) := by decide +kernel
theorem dX5_coatsOfAll_22 : decode cX5_coatsOfAll 22 = .ok (.iadd, 1) := by decide +kernel
theorem dX5_coatsOfAll_23 : decode cX5_coatsOfAll 23 = .ok (.istore_n 1, 1) := by decide +kernel
theorem dX5_coatsOfAll_24 : decode cX5_coatsOfAll 24 = .ok (.iinc 2 1, 3) := by decide +kernel
theorem dX5_coatsOfAll_27 : decode cX5_coatsOfAll 27 = .ok (.goto (-23), 3) := by decide +kernel
theorem dX5_coatsOfAll_30 : decode cX5_coatsOfAll 30 = .ok (.iload_n 1, 1) := by decide +kernel
theorem dX5_coatsOfAll_31 : decode cX5_coatsOfAll 31 = .ok (.ireturn, 1) := by decide +kernel
theorem dX5_fallenOnes_0 : decode cX5_fallenOnes 0 = .ok (.iconst 0, 1) := by decide +kernel
theorem dX5_fallenOnes_1 : decode cX5_fallenOnes 1 = .ok (.istore_n 1, 1) := by decide +kernel
theorem dX5_fallenOnes_2 : decode cX5_fallenOnes 2 = .ok (.iconst 0, 1) := by decide +kernel
theorem dX5_fallenOnes_3 : decode cX5_fallenOnes 3 = .ok (.istore_n 2, 1) := by decide +kernel
theorem dX5_fallenOnes_4 : decode cX5_fallenOnes 4 = .ok (.iload_n 2, 1) := by decide +kernel
theorem dX5_fallenOnes_5 : decode cX5_fallenOnes 5 = .ok (.aload_n 0, 1) := by decide +kernel
theorem dX5_fallenOnes_6 : decode cX5_fallenOnes 6 = .ok (.getfield 28, 3) := by decide +kernel
theorem dX5_fallenOnes_9 : decode cX5_fallenOnes 9 = .ok (.if_icmp .ge 29, 3) := by decide +kernel
theorem dX5_fallenOnes_12 : decode cX5_fallenOnes 12 = .ok (.aload_n 0, 1) := by decide +kernel
theorem dX5_fallenOnes_13 : decode cX5_fallenOnes 13 = .ok (.getfield 11, 3) := by decide +kernel
theorem dX5_fallenOnes_16 : decode cX5_fallenOnes 16 = .ok (.iload_n 2, 1) := by decide +kernel
theorem dX5_fallenOnes_17 : decode cX5_fallenOnes 17 = .ok (.aaload, 1) := by decide +kernel
theorem dX5_fallenOnes_18 : decode cX5_fallenOnes 18 = .ok (.getfield 68, 3) := by decide +kernel
theorem dX5_fallenOnes_21 : decode cX5_fallenOnes 21 = .ok (.bipush (-4), 2) := by decide +kernel
theorem dX5_fallenOnes_23 : decode cX5_fallenOnes 23 = .ok (.if_icmp .eq 9, 3) := by decide +kernel
theorem dX5_fallenOnes_26 : decode cX5_fallenOnes 26 = .ok (.iload_n 1, 1) := by decide +kernel
theorem dX5_fallenOnes_27 : decode cX5_fallenOnes 27 = .ok (.iconst 1, 1) := by decide +kernel
theorem dX5_fallenOnes_28 : decode cX5_fallenOnes 28 = .ok (.iload_n 2, 1) := by decide +kernel
theorem dX5_fallenOnes_29 : decode cX5_fallenOnes 29 = .ok (.ishl, 1) := by decide +kernel
theorem dX5_fallenOnes_30 : decode cX5_fallenOnes 30 = .ok (.ior, 1) := by decide +kernel
theorem dX5_fallenOnes_31 : decode cX5_fallenOnes 31 = .ok (.istore_n 1, 1) := by decide +kernel
theorem dX5_fallenOnes_32 : decode cX5_fallenOnes 32 = .ok (.iinc 2 1, 3) := by decide +kernel
theorem dX5_fallenOnes_35 : decode cX5_fallenOnes 35 = .ok (.goto (-31), 3) := by decide +kernel
theorem dX5_fallenOnes_38 : decode cX5_fallenOnes 38 = .ok (.iload_n 1, 1) := by decide +kernel
theorem dX5_fallenOnes_39 : decode cX5_fallenOnes 39 = .ok (.ireturn, 1) := by decide +kernel
theorem dX5_heatOn_0 : decode cX5_heatOn 0 = .ok (.iload_n 1, 1) := by decide +kernel
theorem dX5_heatOn_1 : decode cX5_heatOn 1 = .ok (.bipush 30, 2) := by decide +kernel
theorem dX5_heatOn_3 : decode cX5_heatOn 3 = .ok (.idiv, 1) := by decide +kernel
theorem dX5_heatOn_4 : decode cX5_heatOn 4 = .ok (.istore_n 2, 1) := by decide +kernel
theorem dX5_heatOn_5 : decode cX5_heatOn 5 = .ok (.iload_n 2, 1) := by decide +kernel
theorem dX5_heatOn_6 : decode cX5_heatOn 6 = .ok (.iconst 0, 1) := by decide +kernel
theorem dX5_heatOn_7 : decode cX5_heatOn 7 = .ok (.bipush 11, 2) := by decide +kernel
theorem dX5_heatOn_9 : decode cX5_heatOn 9 = .ok (.invokestatic 57, 3) := by decide +kernel
theorem dX5_heatOn_12 : decode cX5_heatOn 12 = .ok (.ifCond .eq 12, 3) := by decide +kernel
theorem dX5_heatOn_15 : decode cX5_heatOn 15 = .ok (.aload_n 0, 1) := by decide +kernel
theorem dX5_heatOn_16 : decode cX5_heatOn 16 = .ok (.getfield 17, 3) := by decide +kernel
theorem dX5_heatOn_19 : decode cX5_heatOn 19 = .ok (.iload_n 2, 1) := by decide +kernel
theorem dX5_heatOn_20 : decode cX5_heatOn 20 = .ok (.iaload, 1) := by decide +kernel
theorem dX5_heatOn_21 : decode cX5_heatOn 21 = .ok (.goto 4, 3) := by decide +kernel
theorem dX5_heatOn_24 : decode cX5_heatOn 24 = .ok (.iconst 0, 1) := by decide +kernel
theorem dX5_heatOn_25 : decode cX5_heatOn 25 = .ok (.ireturn, 1) := by decide +kernel
theorem dX5_passNightsUntil_0 : decode cX5_passNightsUntil 0 = .ok (.aload_n 0, 1) := by decide +kernel
theorem dX5_passNightsUntil_1 : decode cX5_passNightsUntil 1 = .ok (.getfield 45, 3) := by decide +kernel
theorem dX5_passNightsUntil_4 : decode cX5_passNightsUntil 4 = .ok (.istore_n 2, 1) := by decide +kernel
theorem dX5_passNightsUntil_5 : decode cX5_passNightsUntil 5 = .ok (.iload_n 2, 1) := by decide +kernel
theorem dX5_passNightsUntil_6 : decode cX5_passNightsUntil 6 = .ok (.iload_n 1, 1) := by decide +kernel
theorem dX5_passNightsUntil_7 : decode cX5_passNightsUntil 7 = .ok (.if_icmp .ge 13, 3) := by decide +kernel
theorem dX5_passNightsUntil_10 : decode cX5_passNightsUntil 10 = .ok (.aload_n 0, 1) := by decide +kernel
theorem dX5_passNightsUntil_11 : decode cX5_passNightsUntil 11 = .ok (.invokevirtual 71, 3) := by decide +kernel
theorem dX5_passNightsUntil_14 : decode cX5_passNightsUntil 14 = .ok (.iinc 2 1, 3) := by decide +kernel
theorem dX5_passNightsUntil_17 : decode cX5_passNightsUntil 17 = .ok (.goto (-12), 3) := by decide +kernel
theorem dX5_passNightsUntil_20 : decode cX5_passNightsUntil 20 = .ok (.return_, 1) := by decide +kernel
theorem dX5_passNight_0 : decode cX5_passNight 0 = .ok (.aload_n 0, 1) := by decide +kernel
theorem dX5_passNight_1 : decode cX5_passNight 1 = .ok (.dup, 1) := by decide +kernel
theorem dX5_passNight_2 : decode cX5_passNight 2 = .ok (.getfield 45, 3) := by decide +kernel
theorem dX5_passNight_5 : decode cX5_passNight 5 = .ok (.iconst 1, 1) := by decide +kernel
theorem dX5_passNight_6 : decode cX5_passNight 6 = .ok (.iadd, 1) := by decide +kernel
theorem dX5_passNight_7 : decode cX5_passNight 7 = .ok (.putfield 45, 3) := by decide +kernel
theorem dX5_passNight_10 : decode cX5_passNight 10 = .ok (.iconst 0, 1) := by decide +kernel
theorem dX5_passNight_11 : decode cX5_passNight 11 = .ok (.istore_n 1, 1) := by decide +kernel
theorem dX5_passNight_12 : decode cX5_passNight 12 = .ok (.iload_n 1, 1) := by decide +kernel
theorem dX5_passNight_13 : decode cX5_passNight 13 = .ok (.aload_n 0, 1) := by decide +kernel
theorem dX5_passNight_14 : decode cX5_passNight 14 = .ok (.getfield 28, 3) := by decide +kernel
theorem dX5_passNight_17 : decode cX5_passNight 17 = .ok (.if_icmp .ge 51, 3) := by decide +kernel
theorem dX5_passNight_20 : decode cX5_passNight 20 = .ok (.aload_n 0, 1) := by decide +kernel
theorem dX5_passNight_21 : decode cX5_passNight 21 = .ok (.getfield 11, 3) := by decide +kernel
theorem dX5_passNight_24 : decode cX5_passNight 24 = .ok (.iload_n 1, 1) := by decide +kernel
theorem dX5_passNight_25 : decode cX5_passNight 25 = .ok (.aaload, 1) := by decide +kernel
theorem dX5_passNight_26 : decode cX5_passNight 26 = .ok (.invokevirtual 74, 3) := by decide +kernel
theorem dX5_passNight_29 : decode cX5_passNight 29 = .ok (.aload_n 0, 1) := by decide +kernel
theorem dX5_passNight_30 : decode cX5_passNight 30 = .ok (.getfield 11, 3) := by decide +kernel
theorem dX5_passNight_33 : decode cX5_passNight 33 = .ok (.iload_n 1, 1) := by decide +kernel
theorem dX5_passNight_34 : decode cX5_passNight 34 = .ok (.aaload, 1) := by decide +kernel
theorem dX5_passNight_35 : decode cX5_passNight 35 = .ok (.aload_n 0, 1) := by decide +kernel
theorem dX5_passNight_36 : decode cX5_passNight 36 = .ok (.aload_n 0, 1) := by decide +kernel
theorem dX5_passNight_37 : decode cX5_passNight 37 = .ok (.getfield 45, 3) := by decide +kernel
theorem dX5_passNight_40 : decode cX5_passNight 40 = .ok (.invokevirtual 75, 3) := by decide +kernel
theorem dX5_passNight_43 : decode cX5_passNight 43 = .ok (.invokevirtual 79, 3) := by decide +kernel
theorem dX5_passNight_46 : decode cX5_passNight 46 = .ok (.ifCond .eq 16, 3) := by decide +kernel
theorem dX5_passNight_49 : decode cX5_passNight 49 = .ok (.aload_n 0, 1) := by decide +kernel
theorem dX5_passNight_50 : decode cX5_passNight 50 = .ok (.getfield 11, 3) := by decide +kernel
theorem dX5_passNight_53 : decode cX5_passNight 53 = .ok (.iload_n 1, 1) := by decide +kernel
theorem dX5_passNight_54 : decode cX5_passNight 54 = .ok (.aaload, 1) := by decide +kernel
theorem dX5_passNight_55 : decode cX5_passNight 55 = .ok (.aload_n 0, 1) := by decide +kernel
theorem dX5_passNight_56 : decode cX5_passNight 56 = .ok (.getfield 45, 3) := by decide +kernel
theorem dX5_passNight_59 : decode cX5_passNight 59 = .ok (.invokevirtual 82, 3) := by decide +kernel
theorem dX5_passNight_62 : decode cX5_passNight 62 = .ok (.iinc 1 1, 3) := by decide +kernel
theorem dX5_passNight_65 : decode cX5_passNight 65 = .ok (.goto (-53), 3) := by decide +kernel
theorem dX5_passNight_68 : decode cX5_passNight 68 = .ok (.return_, 1) := by decide +kernel
theorem dX5_canBePaid_0 : decode cX5_canBePaid 0 = .ok (.iload_n 1, 1) := by decide +kernel
theorem dX5_canBePaid_1 : decode cX5_canBePaid 1 = .ok (.aload_n 0, 1) := by decide +kernel
theorem dX5_canBePaid_2 : decode cX5_canBePaid 2 = .ok (.getfield 45, 3) := by decide +kernel
theorem dX5_canBePaid_5 : decode cX5_canBePaid 5 = .ok (.sipush 359, 3) := by decide +kernel
theorem dX5_canBePaid_8 : decode cX5_canBePaid 8 = .ok (.invokestatic 57, 3) := by decide +kernel
theorem dX5_canBePaid_11 : decode cX5_canBePaid 11 = .ok (.ifCond .eq 12, 3) := by decide +kernel
theorem dX5_canBePaid_14 : decode cX5_canBePaid 14 = .ok (.aload_n 0, 1) := by decide +kernel
theorem dX5_canBePaid_15 : decode cX5_canBePaid 15 = .ok (.iload_n 2, 1) := by decide +kernel
theorem dX5_canBePaid_16 : decode cX5_canBePaid 16 = .ok (.iload_n 3, 1) := by decide +kernel
theorem dX5_canBePaid_17 : decode cX5_canBePaid 17 = .ok (.invokevirtual 86, 3) := by decide +kernel
theorem dX5_canBePaid_20 : decode cX5_canBePaid 20 = .ok (.ifCond .ne 5, 3) := by decide +kernel
theorem dX5_canBePaid_23 : decode cX5_canBePaid 23 = .ok (.iconst 0, 1) := by decide +kernel
theorem dX5_canBePaid_24 : decode cX5_canBePaid 24 = .ok (.ireturn, 1) := by decide +kernel
theorem dX5_canBePaid_25 : decode cX5_canBePaid 25 = .ok (.aload_n 0, 1) := by decide +kernel
theorem dX5_canBePaid_26 : decode cX5_canBePaid 26 = .ok (.iload_n 1, 1) := by decide +kernel
theorem dX5_canBePaid_27 : decode cX5_canBePaid 27 = .ok (.invokevirtual 90, 3) := by decide +kernel
theorem dX5_canBePaid_30 : decode cX5_canBePaid 30 = .ok (.aload_n 0, 1) := by decide +kernel
theorem dX5_canBePaid_31 : decode cX5_canBePaid 31 = .ok (.getfield 11, 3) := by decide +kernel
theorem dX5_canBePaid_34 : decode cX5_canBePaid 34 = .ok (.iload_n 2, 1) := by decide +kernel
theorem dX5_canBePaid_35 : decode cX5_canBePaid 35 = .ok (.aaload, 1) := by decide +kernel
theorem dX5_canBePaid_36 : decode cX5_canBePaid 36 = .ok (.astore 4, 2) := by decide +kernel
theorem dX5_canBePaid_38 : decode cX5_canBePaid 38 = .ok (.aload_n 0, 1) := by decide +kernel
theorem dX5_canBePaid_39 : decode cX5_canBePaid 39 = .ok (.getfield 48, 3) := by decide +kernel
theorem dX5_canBePaid_42 : decode cX5_canBePaid 42 = .ok (.aload 4, 2) := by decide +kernel
theorem dX5_canBePaid_44 : decode cX5_canBePaid 44 = .ok (.invokevirtual 93, 3) := by decide +kernel
theorem dX5_canBePaid_47 : decode cX5_canBePaid 47 = .ok (.iload_n 3, 1) := by decide +kernel
theorem dX5_canBePaid_48 : decode cX5_canBePaid 48 = .ok (.invokestatic 97, 3) := by decide +kernel
theorem dX5_canBePaid_51 : decode cX5_canBePaid 51 = .ok (.ifCond .eq 18, 3) := by decide +kernel
theorem dX5_canBePaid_54 : decode cX5_canBePaid 54 = .ok (.aload 4, 2) := by decide +kernel
theorem dX5_canBePaid_56 : decode cX5_canBePaid 56 = .ok (.getfield 100, 3) := by decide +kernel
theorem dX5_canBePaid_59 : decode cX5_canBePaid 59 = .ok (.aload 4, 2) := by decide +kernel
theorem dX5_canBePaid_61 : decode cX5_canBePaid 61 = .ok (.getfield 103, 3) := by decide +kernel
theorem dX5_canBePaid_64 : decode cX5_canBePaid 64 = .ok (.iload_n 3, 1) := by decide +kernel
theorem dX5_canBePaid_65 : decode cX5_canBePaid 65 = .ok (.iaload, 1) := by decide +kernel
theorem dX5_canBePaid_66 : decode cX5_canBePaid 66 = .ok (.if_icmp .ge 5, 3) := by decide +kernel
theorem dX5_canBePaid_69 : decode cX5_canBePaid 69 = .ok (.iconst 0, 1) := by decide +kernel
theorem dX5_canBePaid_70 : decode cX5_canBePaid 70 = .ok (.ireturn, 1) := by decide +kernel
theorem dX5_canBePaid_71 : decode cX5_canBePaid 71 = .ok (.aload 4, 2) := by decide +kernel
theorem dX5_canBePaid_73 : decode cX5_canBePaid 73 = .ok (.iload_n 3, 1) := by decide +kernel
theorem dX5_canBePaid_74 : decode cX5_canBePaid 74 = .ok (.invokevirtual 106, 3) := by decide +kernel
theorem dX5_canBePaid_77 : decode cX5_canBePaid 77 = .ok (.iconst 1, 1) := by decide +kernel
theorem dX5_canBePaid_78 : decode cX5_canBePaid 78 = .ok (.ireturn, 1) := by decide +kernel
theorem dX5_isSetOfWares_0 : decode cX5_isSetOfWares 0 = .ok (.iconst 0, 1) := by decide +kernel
theorem dX5_isSetOfWares_1 : decode cX5_isSetOfWares 1 = .ok (.istore 4, 2) := by decide +kernel
theorem dX5_isSetOfWares_3 : decode cX5_isSetOfWares 3 = .ok (.iconst 0, 1) := by decide +kernel
theorem dX5_isSetOfWares_4 : decode cX5_isSetOfWares 4 = .ok (.istore 5, 2) := by decide +kernel
theorem dX5_isSetOfWares_6 : decode cX5_isSetOfWares 6 = .ok (.iconst 0, 1) := by decide +kernel
theorem dX5_isSetOfWares_7 : decode cX5_isSetOfWares 7 = .ok (.istore 6, 2) := by decide +kernel
theorem dX5_isSetOfWares_9 : decode cX5_isSetOfWares 9 = .ok (.iload 6, 2) := by decide +kernel
theorem dX5_isSetOfWares_11 : decode cX5_isSetOfWares 11 = .ok (.aload_n 0, 1) := by decide +kernel
theorem dX5_isSetOfWares_12 : decode cX5_isSetOfWares 12 = .ok (.getfield 42, 3) := by decide +kernel
theorem dX5_isSetOfWares_15 : decode cX5_isSetOfWares 15 = .ok (.if_icmp .ge 42, 3) := by decide +kernel
theorem dX5_isSetOfWares_18 : decode cX5_isSetOfWares 18 = .ok (.iload_n 1, 1) := by decide +kernel
theorem dX5_isSetOfWares_19 : decode cX5_isSetOfWares 19 = .ok (.iload 6, 2) := by decide +kernel
theorem dX5_isSetOfWares_21 : decode cX5_isSetOfWares 21 = .ok (.invokestatic 109, 3) := by decide +kernel
theorem dX5_isSetOfWares_24 : decode cX5_isSetOfWares 24 = .ok (.ifCond .eq 27, 3) := by decide +kernel
theorem dX5_isSetOfWares_27 : decode cX5_isSetOfWares 27 = .ok (.iload 4, 2) := by decide +kernel
theorem dX5_isSetOfWares_29 : decode cX5_isSetOfWares 29 = .ok (.aload_n 0, 1) := by decide +kernel
theorem dX5_isSetOfWares_30 : decode cX5_isSetOfWares 30 = .ok (.getfield 24, 3) := by decide +kernel
theorem dX5_isSetOfWares_33 : decode cX5_isSetOfWares 33 = .ok (.iload 6, 2) := by decide +kernel
theorem dX5_isSetOfWares_35 : decode cX5_isSetOfWares 35 = .ok (.iaload, 1) := by decide +kernel
theorem dX5_isSetOfWares_36 : decode cX5_isSetOfWares 36 = .ok (.iadd, 1) := by decide +kernel
theorem dX5_isSetOfWares_37 : decode cX5_isSetOfWares 37 = .ok (.istore 4, 2) := by decide +kernel
theorem dX5_isSetOfWares_39 : decode cX5_isSetOfWares 39 = .ok (.iload 5, 2) := by decide +kernel
theorem dX5_isSetOfWares_41 : decode cX5_isSetOfWares 41 = .ok (.aload_n 0, 1) := by decide +kernel
theorem dX5_isSetOfWares_42 : decode cX5_isSetOfWares 42 = .ok (.getfield 21, 3) := by decide +kernel
theorem dX5_isSetOfWares_45 : decode cX5_isSetOfWares 45 = .ok (.iload 6, 2) := by decide +kernel
theorem dX5_isSetOfWares_47 : decode cX5_isSetOfWares 47 = .ok (.iaload, 1) := by decide +kernel
theorem dX5_isSetOfWares_48 : decode cX5_isSetOfWares 48 = .ok (.iadd, 1) := by decide +kernel
theorem dX5_isSetOfWares_49 : decode cX5_isSetOfWares 49 = .ok (.istore 5, 2) := by decide +kernel
theorem dX5_isSetOfWares_51 : decode cX5_isSetOfWares 51 = .ok (.iinc 6 1, 3) := by decide +kernel
theorem dX5_isSetOfWares_54 : decode cX5_isSetOfWares 54 = .ok (.goto (-45), 3) := by decide +kernel
theorem dX5_isSetOfWares_57 : decode cX5_isSetOfWares 57 = .ok (.iload 4, 2) := by decide +kernel
theorem dX5_isSetOfWares_59 : decode cX5_isSetOfWares 59 = .ok (.iload_n 2, 1) := by decide +kernel
theorem dX5_isSetOfWares_60 : decode cX5_isSetOfWares 60 = .ok (.if_icmp .ne 13, 3) := by decide +kernel
theorem dX5_isSetOfWares_63 : decode cX5_isSetOfWares 63 = .ok (.iload 5, 2) := by decide +kernel
theorem dX5_isSetOfWares_65 : decode cX5_isSetOfWares 65 = .ok (.iload_n 3, 1) := by decide +kernel
theorem dX5_isSetOfWares_66 : decode cX5_isSetOfWares 66 = .ok (.if_icmp .ne 7, 3) := by decide +kernel
theorem dX5_isSetOfWares_69 : decode cX5_isSetOfWares 69 = .ok (.iconst 1, 1) := by decide +kernel
theorem dX5_isSetOfWares_70 : decode cX5_isSetOfWares 70 = .ok (.goto 4, 3) := by decide +kernel
theorem dX5_isSetOfWares_73 : decode cX5_isSetOfWares 73 = .ok (.iconst 0, 1) := by decide +kernel
theorem dX5_isSetOfWares_74 : decode cX5_isSetOfWares 74 = .ok (.ireturn, 1) := by decide +kernel
