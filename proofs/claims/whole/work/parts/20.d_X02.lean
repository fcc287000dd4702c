theorem dX0_init_0 : decode cX0_init 0 = .ok (.aload_n 0, 1) := by decide +kernel
theorem dX0_init_1 : decode cX0_init 1 = .ok (.invokespecial 1, 3) := by decide +kernel
theorem dX0_init_4 : decode cX0_init 4 = .ok (.aload_n 0, 1) := by decide +kernel
theorem dX0_init_5 : decode cX0_init 5 = .ok (.iconst 3, 1) := by decide +kernel
theorem dX0_init_6 : decode cX0_init 6 = .ok (.newarray .int, 2) := by decide +kernel
theorem dX0_init_8 : decode cX0_init 8 = .ok (.putfield 7, 3) := by decide +kernel
theorem dX0_init_11 : decode cX0_init 11 = .ok (.return_, 1) := by decide +kernel
theorem dX0_find_0 : decode cX0_find 0 = .ok (.aload_n 0, 1) := by decide +kernel
theorem dX0_find_1 : decode cX0_find 1 = .ok (.iconst 0, 1) := by decide +kernel
theorem dX0_find_2 : decode cX0_find 2 = .ok (.putfield 13, 3) := by decide +kernel
theorem dX0_find_5 : decode cX0_find 5 = .ok (.aload_n 0, 1) := by decide +kernel
theorem dX0_find_6 : decode cX0_find 6 = .ok (.iconst 0, 1) := by decide +kernel
theorem dX0_find_7 : decode cX0_find 7 = .ok (.putfield 17, 3) := by decide +kernel
theorem dX0_find_10 : decode cX0_find 10 = .ok (.iconst 0, 1) := by decide +kernel
theorem dX0_find_11 : decode cX0_find 11 = .ok (.istore_n 2, 1) := by decide +kernel
theorem dX0_find_12 : decode cX0_find 12 = .ok (.iload_n 2, 1) := by decide +kernel
theorem dX0_find_13 : decode cX0_find 13 = .ok (.aload_n 1, 1) := by decide +kernel
theorem dX0_find_14 : decode cX0_find 14 = .ok (.getfield 20, 3) := by decide +kernel
theorem dX0_find_17 : decode cX0_find 17 = .ok (.if_icmp .ge 51, 3) := by decide +kernel
theorem dX0_find_20 : decode cX0_find 20 = .ok (.iload_n 2, 1) := by decide +kernel
theorem dX0_find_21 : decode cX0_find 21 = .ok (.iconst 1, 1) := by decide +kernel
theorem dX0_find_22 : decode cX0_find 22 = .ok (.iadd, 1) := by decide +kernel
theorem dX0_find_23 : decode cX0_find 23 = .ok (.istore_n 3, 1) := by decide +kernel
theorem dX0_find_24 : decode cX0_find 24 = .ok (.iload_n 3, 1) := by decide +kernel
theorem dX0_find_25 : decode cX0_find 25 = .ok (.aload_n 1, 1) := by decide +kernel
theorem dX0_find_26 : decode cX0_find 26 = .ok (.getfield 20, 3) := by decide +kernel
theorem dX0_find_29 : decode cX0_find 29 = .ok (.if_icmp .ge 33, 3) := by decide +kernel
theorem dX0_find_32 : decode cX0_find 32 = .ok (.aload_n 0, 1) := by decide +kernel
theorem dX0_find_33 : decode cX0_find 33 = .ok (.aload_n 1, 1) := by decide +kernel
theorem dX0_find_34 : decode cX0_find 34 = .ok (.getfield 25, 3) := by decide +kernel
theorem dX0_find_37 : decode cX0_find 37 = .ok (.iload_n 2, 1) := by decide +kernel
theorem dX0_find_38 : decode cX0_find 38 = .ok (.aaload, 1) := by decide +kernel
theorem dX0_find_39 : decode cX0_find 39 = .ok (.aload_n 1, 1) := by decide +kernel
theorem dX0_find_40 : decode cX0_find 40 = .ok (.getfield 25, 3) := by decide +kernel
theorem dX0_find_43 : decode cX0_find 43 = .ok (.iload_n 3, 1) := by decide +kernel
theorem dX0_find_44 : decode cX0_find 44 = .ok (.aaload, 1) := by decide +kernel
theorem dX0_find_45 : decode cX0_find 45 = .ok (.aconst_null, 1) := by decide +kernel
theorem dX0_find_46 : decode cX0_find 46 = .ok (.invokestatic 29, 3) := by decide +kernel
theorem dX0_find_49 : decode cX0_find 49 = .ok (.iconst 2, 1) := by decide +kernel
theorem dX0_find_50 : decode cX0_find 50 = .ok (.iload_n 2, 1) := by decide +kernel
theorem dX0_find_51 : decode cX0_find 51 = .ok (.iload_n 3, 1) := by decide +kernel
theorem dX0_find_52 : decode cX0_find 52 = .ok (.iconst (-1), 1) := by decide +kernel
theorem dX0_find_53 : decode cX0_find 53 = .ok (.invokevirtual 33, 3) := by decide +kernel
theorem dX0_find_56 : decode cX0_find 56 = .ok (.iinc 3 1, 3) := by decide +kernel
theorem dX0_find_59 : decode cX0_find 59 = .ok (.goto (-35), 3) := by decide +kernel
theorem dX0_find_62 : decode cX0_find 62 = .ok (.iinc 2 1, 3) := by decide +kernel
theorem dX0_find_65 : decode cX0_find 65 = .ok (.goto (-53), 3) := by decide +kernel
theorem dX0_find_68 : decode cX0_find 68 = .ok (.iconst 0, 1) := by decide +kernel
theorem dX0_find_69 : decode cX0_find 69 = .ok (.istore_n 2, 1) := by decide +kernel
theorem dX0_find_70 : decode cX0_find 70 = .ok (.iload_n 2, 1) := by decide +kernel
theorem dX0_find_71 : decode cX0_find 71 = .ok (.aload_n 1, 1) := by decide +kernel
theorem dX0_find_72 : decode cX0_find 72 = .ok (.getfield 20, 3) := by decide +kernel
theorem dX0_find_75 : decode cX0_find 75 = .ok (.if_icmp .ge 34, 3) := by decide +kernel
theorem dX0_find_78 : decode cX0_find 78 = .ok (.iload_n 2, 1) := by decide +kernel
theorem dX0_find_79 : decode cX0_find 79 = .ok (.iconst 1, 1) := by decide +kernel
theorem dX0_find_80 : decode cX0_find 80 = .ok (.iadd, 1) := by decide +kernel
theorem dX0_find_81 : decode cX0_find 81 = .ok (.istore_n 3, 1) := by decide +kernel
theorem dX0_find_82 : decode cX0_find 82 = .ok (.iload_n 3, 1) := by decide +kernel
theorem dX0_find_83 : decode cX0_find 83 = .ok (.aload_n 1, 1) := by decide +kernel
theorem dX0_find_84 : decode cX0_find 84 = .ok (.getfield 20, 3) := by decide +kernel
theorem dX0_find_87 : decode cX0_find 87 = .ok (.if_icmp .ge 16, 3) := by decide +kernel
theorem dX0_find_90 : decode cX0_find 90 = .ok (.aload_n 0, 1) := by decide +kernel
theorem dX0_find_91 : decode cX0_find 91 = .ok (.aload_n 1, 1) := by decide +kernel
theorem dX0_find_92 : decode cX0_find 92 = .ok (.iload_n 2, 1) := by decide +kernel
theorem dX0_find_93 : decode cX0_find 93 = .ok (.iload_n 3, 1) := by decide +kernel
theorem dX0_find_94 : decode cX0_find 94 = .ok (.invokevirtual 37, 3) := by decide +kernel
theorem dX0_find_97 : decode cX0_find 97 = .ok (.iinc 3 1, 3) := by decide +kernel
theorem dX0_find_100 : decode cX0_find 100 = .ok (.goto (-18), 3) := by decide +kernel
theorem dX0_find_103 : decode cX0_find 103 = .ok (.iinc 2 1, 3) := by decide +kernel
theorem dX0_find_106 : decode cX0_find 106 = .ok (.goto (-36), 3) := by decide +kernel
theorem dX0_find_109 : decode cX0_find 109 = .ok (.return_, 1) := by decide +kernel
theorem dX0_findThirds_0 : decode cX0_findThirds 0 = .ok (.iload_n 2, 1) := by decide +kernel
theorem dX0_findThirds_1 : decode cX0_findThirds 1 = .ok (.iconst 1, 1) := by decide +kernel
theorem dX0_findThirds_2 : decode cX0_findThirds 2 = .ok (.iadd, 1) := by decide +kernel
theorem dX0_findThirds_3 : decode cX0_findThirds 3 = .ok (.istore 4, 2) := by decide +kernel
theorem dX0_findThirds_5 : decode cX0_findThirds 5 = .ok (.iload 4, 2) := by decide +kernel
theorem dX0_findThirds_7 : decode cX0_findThirds 7 = .ok (.aload_n 1, 1) := by decide +kernel
theorem dX0_findThirds_8 : decode cX0_findThirds 8 = .ok (.getfield 20, 3) := by decide +kernel
theorem dX0_findThirds_11 : decode cX0_findThirds 11 = .ok (.if_icmp .ge 46, 3) := by decide +kernel
theorem dX0_findThirds_14 : decode cX0_findThirds 14 = .ok (.iload 4, 2) := by decide +kernel
theorem dX0_findThirds_16 : decode cX0_findThirds 16 = .ok (.iload_n 3, 1) := by decide +kernel
theorem dX0_findThirds_17 : decode cX0_findThirds 17 = .ok (.if_icmp .eq 34, 3) := by decide +kernel
theorem dX0_findThirds_20 : decode cX0_findThirds 20 = .ok (.aload_n 0, 1) := by decide +kernel
theorem dX0_findThirds_21 : decode cX0_findThirds 21 = .ok (.aload_n 1, 1) := by decide +kernel
theorem dX0_findThirds_22 : decode cX0_findThirds 22 = .ok (.getfield 25, 3) := by decide +kernel
theorem dX0_findThirds_25 : decode cX0_findThirds 25 = .ok (.iload_n 2, 1) := by decide +kernel
theorem dX0_findThirds_26 : decode cX0_findThirds 26 = .ok (.aaload, 1) := by decide +kernel
theorem dX0_findThirds_27 : decode cX0_findThirds 27 = .ok (.aload_n 1, 1) := by decide +kernel
theorem dX0_findThirds_28 : decode cX0_findThirds 28 = .ok (.getfield 25, 3) := by decide +kernel
theorem dX0_findThirds_31 : decode cX0_findThirds 31 = .ok (.iload_n 3, 1) := by decide +kernel
theorem dX0_findThirds_32 : decode cX0_findThirds 32 = .ok (.aaload, 1) := by decide +kernel
theorem dX0_findThirds_33 : decode cX0_findThirds 33 = .ok (.aload_n 1, 1) := by decide +kernel
theorem dX0_findThirds_34 : decode cX0_findThirds 34 = .ok (.getfield 25, 3) := by decide +kernel
theorem dX0_findThirds_37 : decode cX0_findThirds 37 = .ok (.iload 4, 2) := by decide +kernel
theorem dX0_findThirds_39 : decode cX0_findThirds 39 = .ok (.aaload, 1) := by decide +kernel
theorem dX0_findThirds_40 : decode cX0_findThirds 40 = .ok (.invokestatic 29, 3) := by decide +kernel
theorem dX0_findThirds_43 : decode cX0_findThirds 43 = .ok (.iconst 3, 1) := by decide +kernel
theorem dX0_findThirds_44 : decode cX0_findThirds 44 = .ok (.iload_n 2, 1) := by decide +kernel
theorem dX0_findThirds_45 : decode cX0_findThirds 45 = .ok (.iload_n 3, 1) := by decide +kernel
theorem dX0_findThirds_46 : decode cX0_findThirds 46 = .ok (.iload 4, 2) := by decide +kernel
theorem dX0_findThirds_48 : decode cX0_findThirds 48 = .ok (.invokevirtual 33, 3) := by decide +kernel
theorem dX0_findThirds_51 : decode cX0_findThirds 51 = .ok (.iinc 4 1, 3) := by decide +kernel
theorem dX0_findThirds_54 : decode cX0_findThirds 54 = .ok (.goto (-49), 3) := by decide +kernel
theorem dX0_findThirds_57 : decode cX0_findThirds 57 = .ok (.return_, 1) := by decide +kernel
theorem dX0_keepIfBetter_0 : decode cX0_keepIfBetter 0 = .ok (.iload_n 1, 1) := by decide +kernel
theorem dX0_keepIfBetter_1 : decode cX0_keepIfBetter 1 = .ok (.aload_n 0, 1) := by decide +kernel
theorem dX0_keepIfBetter_2 : decode cX0_keepIfBetter 2 = .ok (.getfield 17, 3) := by decide +kernel
theorem dX0_keepIfBetter_5 : decode cX0_keepIfBetter 5 = .ok (.if_icmp .le 36, 3) := by decide +kernel
theorem dX0_keepIfBetter_8 : decode cX0_keepIfBetter 8 = .ok (.aload_n 0, 1) := by decide +kernel
theorem dX0_keepIfBetter_9 : decode cX0_keepIfBetter 9 = .ok (.iload_n 1, 1) := by decide +kernel
theorem dX0_keepIfBetter_10 : decode cX0_keepIfBetter 10 = .ok (.putfield 17, 3) := by decide +kernel
theorem dX0_keepIfBetter_13 : decode cX0_keepIfBetter 13 = .ok (.aload_n 0, 1) := by decide +kernel
theorem dX0_keepIfBetter_14 : decode cX0_keepIfBetter 14 = .ok (.iload_n 2, 1) := by decide +kernel
theorem dX0_keepIfBetter_15 : decode cX0_keepIfBetter 15 = .ok (.putfield 13, 3) := by decide +kernel
theorem dX0_keepIfBetter_18 : decode cX0_keepIfBetter 18 = .ok (.aload_n 0, 1) := by decide +kernel
theorem dX0_keepIfBetter_19 : decode cX0_keepIfBetter 19 = .ok (.getfield 7, 3) := by decide +kernel
theorem dX0_keepIfBetter_22 : decode cX0_keepIfBetter 22 = .ok (.iconst 0, 1) := by decide +kernel
theorem dX0_keepIfBetter_23 : decode cX0_keepIfBetter 23 = .ok (.iload_n 3, 1) := by decide +kernel
theorem dX0_keepIfBetter_24 : decode cX0_keepIfBetter 24 = .ok (.iastore, 1) := by decide +kernel
theorem dX0_keepIfBetter_25 : decode cX0_keepIfBetter 25 = .ok (.aload_n 0, 1) := by decide +kernel
theorem dX0_keepIfBetter_26 : decode cX0_keepIfBetter 26 = .ok (.getfield 7, 3) := by decide +kernel
theorem dX0_keepIfBetter_29 : decode cX0_keepIfBetter 29 = .ok (.iconst 1, 1) := by decide +kernel
theorem dX0_keepIfBetter_30 : decode cX0_keepIfBetter 30 = .ok (.iload 4, 2) := by decide +kernel
theorem dX0_keepIfBetter_32 : decode cX0_keepIfBetter 32 = .ok (.iastore, 1) := by decide +kernel
theorem dX0_keepIfBetter_33 : decode cX0_keepIfBetter 33 = .ok (.aload_n 0, 1) := by decide +kernel
theorem dX0_keepIfBetter_34 : decode cX0_keepIfBetter 34 = .ok (.getfield 7, 3) := by decide +kernel
theorem dX0_keepIfBetter_37 : decode cX0_keepIfBetter 37 = .ok (.iconst 2, 1) := by decide +kernel
theorem dX0_keepIfBetter_38 : decode cX0_keepIfBetter 38 = .ok (.iload 5, 2) := by decide +kernel
theorem dX0_keepIfBetter_40 : decode cX0_keepIfBetter 40 = .ok (.iastore, 1) := by decide +kernel
theorem dX0_keepIfBetter_41 : decode cX0_keepIfBetter 41 = .ok (.return_, 1) := by decide +kernel
theorem dX0_savedBy_0 : decode cX0_savedBy 0 = .ok (.aload_n 1, 1) := by decide +kernel
theorem dX0_savedBy_1 : decode cX0_savedBy 1 = .ok (.aload_n 0, 1) := by decide +kernel
theorem dX0_savedBy_2 : decode cX0_savedBy 2 = .ok (.invokestatic 41, 3) := by decide +kernel
theorem dX0_savedBy_5 : decode cX0_savedBy 5 = .ok (.istore_n 3, 1) := by decide +kernel
theorem dX0_savedBy_6 : decode cX0_savedBy 6 = .ok (.aload_n 2, 1) := by decide +kernel
theorem dX0_savedBy_7 : decode cX0_savedBy 7 = .ok (.ifnonnull 28, 3) := by decide +kernel
theorem dX0_savedBy_10 : decode cX0_savedBy 10 = .ok (.aload_n 0, 1) := by decide +kernel
theorem dX0_savedBy_11 : decode cX0_savedBy 11 = .ok (.aload_n 1, 1) := by decide +kernel
theorem dX0_savedBy_12 : decode cX0_savedBy 12 = .ok (.invokestatic 41, 3) := by decide +kernel
theorem dX0_savedBy_15 : decode cX0_savedBy 15 = .ok (.istore 4, 2) := by decide +kernel
theorem dX0_savedBy_17 : decode cX0_savedBy 17 = .ok (.iload 4, 2) := by decide +kernel
theorem dX0_savedBy_19 : decode cX0_savedBy 19 = .ok (.ifCond .le 14, 3) := by decide +kernel
theorem dX0_savedBy_22 : decode cX0_savedBy 22 = .ok (.iload_n 3, 1) := by decide +kernel
theorem dX0_savedBy_23 : decode cX0_savedBy 23 = .ok (.ifCond .le 10, 3) := by decide +kernel
theorem dX0_savedBy_26 : decode cX0_savedBy 26 = .ok (.iload 4, 2) := by decide +kernel
theorem dX0_savedBy_28 : decode cX0_savedBy 28 = .ok (.iload_n 3, 1) := by decide +kernel
theorem dX0_savedBy_29 : decode cX0_savedBy 29 = .ok (.iadd, 1) := by decide +kernel
theorem dX0_savedBy_30 : decode cX0_savedBy 30 = .ok (.goto 4, 3) := by decide +kernel
theorem dX0_savedBy_33 : decode cX0_savedBy 33 = .ok (.iconst 0, 1) := by decide +kernel
theorem dX0_savedBy_34 : decode cX0_savedBy 34 = .ok (.ireturn, 1) := by decide +kernel
theorem dX0_savedBy_35 : decode cX0_savedBy 35 = .ok (.aload_n 2, 1) := by decide +kernel
theorem dX0_savedBy_36 : decode cX0_savedBy 36 = .ok (.aload_n 1, 1) := by decide +kernel
theorem dX0_savedBy_37 : decode cX0_savedBy 37 = .ok (.invokestatic 41, 3) := by decide +kernel
theorem dX0_savedBy_40 : decode cX0_savedBy 40 = .ok (.istore 4, 2) := by decide +kernel
theorem dX0_savedBy_42 : decode cX0_savedBy 42 = .ok (.aload_n 0, 1) := by decide +kernel
theorem dX0_savedBy_43 : decode cX0_savedBy 43 = .ok (.aload_n 2, 1) := by decide +kernel
theorem dX0_savedBy_44 : decode cX0_savedBy 44 = .ok (.invokestatic 41, 3) := by decide +kernel
theorem dX0_savedBy_47 : decode cX0_savedBy 47 = .ok (.istore 5, 2) := by decide +kernel
theorem dX0_savedBy_49 : decode cX0_savedBy 49 = .ok (.iload 5, 2) := by decide +kernel
theorem dX0_savedBy_51 : decode cX0_savedBy 51 = .ok (.ifCond .le 22, 3) := by decide +kernel
theorem dX0_savedBy_54 : decode cX0_savedBy 54 = .ok (.iload_n 3, 1) := by decide +kernel
theorem dX0_savedBy_55 : decode cX0_savedBy 55 = .ok (.ifCond .le 18, 3) := by decide +kernel
theorem dX0_savedBy_58 : decode cX0_savedBy 58 = .ok (.iload 4, 2) := by decide +kernel
theorem dX0_savedBy_60 : decode cX0_savedBy 60 = .ok (.ifCond .le 13, 3) := by decide +kernel
theorem dX0_savedBy_63 : decode cX0_savedBy 63 = .ok (.iload 5, 2) := by decide +kernel
theorem dX0_savedBy_65 : decode cX0_savedBy 65 = .ok (.iload_n 3, 1) := by decide +kernel
theorem dX0_savedBy_66 : decode cX0_savedBy 66 = .ok (.iadd, 1) := by decide +kernel
theorem dX0_savedBy_67 : decode cX0_savedBy 67 = .ok (.iload 4, 2) := by decide +kernel
theorem dX0_savedBy_69 : decode cX0_savedBy 69 = .ok (.iadd, 1) := by decide +kernel
theorem dX0_savedBy_70 : decode cX0_savedBy 70 = .ok (.goto 4, 3) := by decide +kernel
theorem dX0_savedBy_73 : decode cX0_savedBy 73 = .ok (.iconst 0, 1) := by decide +kernel
theorem dX0_savedBy_74 : decode cX0_savedBy 74 = .ok (.ireturn, 1) := by decide +kernel
theorem dX0_gain_0 : decode cX0_gain 0 = .ok (.aload_n 0, 1) := by decide +kernel
theorem dX0_gain_1 : decode cX0_gain 1 = .ok (.getfield 45, 3) := by decide +kernel
theorem dX0_gain_4 : decode cX0_gain 4 = .ok (.iconst 1, 1) := by decide +kernel
theorem dX0_gain_5 : decode cX0_gain 5 = .ok (.if_icmp .lt 11, 3) := by decide +kernel
theorem dX0_gain_8 : decode cX0_gain 8 = .ok (.aload_n 1, 1) := by decide +kernel
theorem dX0_gain_9 : decode cX0_gain 9 = .ok (.getfield 45, 3) := by decide +kernel
theorem dX0_gain_12 : decode cX0_gain 12 = .ok (.iconst 1, 1) := by decide +kernel
theorem dX0_gain_13 : decode cX0_gain 13 = .ok (.if_icmp .ge 5, 3) := by decide +kernel
theorem dX0_gain_16 : decode cX0_gain 16 = .ok (.iconst 0, 1) := by decide +kernel
theorem dX0_gain_17 : decode cX0_gain 17 = .ok (.ireturn, 1) := by decide +kernel
theorem dX0_gain_18 : decode cX0_gain 18 = .ok (.aload_n 0, 1) := by decide +kernel
theorem dX0_gain_19 : decode cX0_gain 19 = .ok (.getfield 50, 3) := by decide +kernel
theorem dX0_gain_22 : decode cX0_gain 22 = .ok (.aload_n 0, 1) := by decide +kernel
theorem dX0_gain_23 : decode cX0_gain 23 = .ok (.getfield 45, 3) := by decide +kernel
theorem dX0_gain_26 : decode cX0_gain 26 = .ok (.iconst 1, 1) := by decide +kernel
theorem dX0_gain_27 : decode cX0_gain 27 = .ok (.isub, 1) := by decide +kernel
theorem dX0_gain_28 : decode cX0_gain 28 = .ok (.iaload, 1) := by decide +kernel
theorem dX0_gain_29 : decode cX0_gain 29 = .ok (.istore_n 2, 1) := by decide +kernel
theorem dX0_gain_30 : decode cX0_gain 30 = .ok (.aload_n 1, 1) := by decide +kernel
theorem dX0_gain_31 : decode cX0_gain 31 = .ok (.getfield 50, 3) := by decide +kernel
theorem dX0_gain_34 : decode cX0_gain 34 = .ok (.aload_n 1, 1) := by decide +kernel
theorem dX0_gain_35 : decode cX0_gain 35 = .ok (.getfield 45, 3) := by decide +kernel
theorem dX0_gain_38 : decode cX0_gain 38 = .ok (.iconst 1, 1) := by decide +kernel
theorem dX0_gain_39 : decode cX0_gain 39 = .ok (.isub, 1) := by decide +kernel
theorem dX0_gain_40 : decode cX0_gain 40 = .ok (.iaload, 1) := by decide +kernel
theorem dX0_gain_41 : decode cX0_gain 41 = .ok (.istore_n 3, 1) := by decide +kernel
theorem dX0_gain_42 : decode cX0_gain 42 = .ok (.aload_n 0, 1) := by decide +kernel
theorem dX0_gain_43 : decode cX0_gain 43 = .ok (.getfield 53, 3) := by decide +kernel
theorem dX0_gain_46 : decode cX0_gain 46 = .ok (.iload_n 2, 1) := by decide +kernel
theorem dX0_gain_47 : decode cX0_gain 47 = .ok (.iaload, 1) := by decide +kernel
theorem dX0_gain_48 : decode cX0_gain 48 = .ok (.aload_n 0, 1) := by decide +kernel
theorem dX0_gain_49 : decode cX0_gain 49 = .ok (.getfield 53, 3) := by decide +kernel
theorem dX0_gain_52 : decode cX0_gain 52 = .ok (.iload_n 3, 1) := by decide +kernel
theorem dX0_gain_53 : decode cX0_gain 53 = .ok (.iaload, 1) := by decide +kernel
theorem dX0_gain_54 : decode cX0_gain 54 = .ok (.isub, 1) := by decide +kernel
theorem dX0_gain_55 : decode cX0_gain 55 = .ok (.ireturn, 1) := by decide +kernel
theorem dX2_init_0 : decode cX2_init 0 = .ok (.aload_n 0, 1) := by decide +kernel
theorem dX2_init_1 : decode cX2_init 1 = .ok (.invokespecial 3, 3) := by decide +kernel
theorem dX2_init_4 : decode cX2_init 4 = .ok (.aload_n 0, 1) := by decide +kernel
theorem dX2_init_5 : decode cX2_init 5 = .ok (.bipush 7, 2) := by decide +kernel
theorem dX2_init_7 : decode cX2_init 7 = .ok (.bipush 8, 2) := by decide +kernel
theorem dX2_init_9 : decode cX2_init 9 = .ok (.multianewarray 9 2, 4) := by decide +kernel
theorem dX2_init_13 : decode cX2_init 13 = .ok (.putfield 11, 3) := by decide +kernel
theorem dX2_init_16 : decode cX2_init 16 = .ok (.aload_n 0, 1) := by decide +kernel
theorem dX2_init_17 : decode cX2_init 17 = .ok (.bipush 6, 2) := by decide +kernel
theorem dX2_init_19 : decode cX2_init 19 = .ok (.newarray .int, 2) := by decide +kernel
theorem dX2_init_21 : decode cX2_init 21 = .ok (.putfield 16, 3) := by decide +kernel
theorem dX2_init_24 : decode cX2_init 24 = .ok (.aload_n 0, 1) := by decide +kernel
theorem dX2_init_25 : decode cX2_init 25 = .ok (.bipush 6, 2) := by decide +kernel
theorem dX2_init_27 : decode cX2_init 27 = .ok (.newarray .int, 2) := by decide +kernel
theorem dX2_init_29 : decode cX2_init 29 = .ok (.putfield 20, 3) := by decide +kernel
theorem dX2_init_32 : decode cX2_init 32 = .ok (.return_, 1) := by decide +kernel
theorem dX2_plan_0 : decode cX2_plan 0 = .ok (.aload_n 0, 1) := by decide +kernel
theorem dX2_plan_1 : decode cX2_plan 1 = .ok (.aload_n 1, 1) := by decide +kernel
theorem dX2_plan_2 : decode cX2_plan 2 = .ok (.putfield 23, 3) := by decide +kernel
theorem dX2_plan_5 : decode cX2_plan 5 = .ok (.aload_n 0, 1) := by decide +kernel
theorem dX2_plan_6 : decode cX2_plan 6 = .ok (.iload_n 2, 1) := by decide +kernel
theorem dX2_plan_7 : decode cX2_plan 7 = .ok (.putfield 27, 3) := by decide +kernel
theorem dX2_plan_10 : decode cX2_plan 10 = .ok (.aload_n 0, 1) := by decide +kernel
theorem dX2_plan_11 : decode cX2_plan 11 = .ok (.sipush 361, 3) := by decide +kernel
theorem dX2_plan_14 : decode cX2_plan 14 = .ok (.putfield 31, 3) := by decide +kernel
theorem dX2_plan_17 : decode cX2_plan 17 = .ok (.aload_n 0, 1) := by decide +kernel
theorem dX2_plan_18 : decode cX2_plan 18 = .ok (.iconst 0, 1) := by decide +kernel
theorem dX2_plan_19 : decode cX2_plan 19 = .ok (.putfield 34, 3) := by decide +kernel
theorem dX2_plan_22 : decode cX2_plan 22 = .ok (.aload_n 1, 1) := by decide +kernel
theorem dX2_plan_23 : decode cX2_plan 23 = .ok (.getfield 37, 3) := by decide +kernel
theorem dX2_plan_26 : decode cX2_plan 26 = .ok (.iconst 0, 1) := by decide +kernel
theorem dX2_plan_27 : decode cX2_plan 27 = .ok (.aload_n 0, 1) := by decide +kernel
theorem dX2_plan_28 : decode cX2_plan 28 = .ok (.getfield 11, 3) := by decide +kernel
theorem dX2_plan_31 : decode cX2_plan 31 = .ok (.iconst 0, 1) := by decide +kernel
theorem dX2_plan_32 : decode cX2_plan 32 = .ok (.aaload, 1) := by decide +kernel
theorem dX2_plan_33 : decode cX2_plan 33 = .ok (.iconst 0, 1) := by decide +kernel
theorem dX2_plan_34 : decode cX2_plan 34 = .ok (.bipush 8, 2) := by decide +kernel
theorem dX2_plan_36 : decode cX2_plan 36 = .ok (.invokestatic 42, 3) := by decide +kernel
theorem dX2_plan_39 : decode cX2_plan 39 = .ok (.aload_n 0, 1) := by decide +kernel
theorem dX2_plan_40 : decode cX2_plan 40 = .ok (.iconst 0, 1) := by decide +kernel
theorem dX2_plan_41 : decode cX2_plan 41 = .ok (.aload_n 1, 1) := by decide +kernel
theorem dX2_plan_42 : decode cX2_plan 42 = .ok (.invokevirtual 48, 3) := by decide +kernel
theorem dX2_plan_45 : decode cX2_plan 45 = .ok (.iconst 0, 1) := by decide +kernel
theorem dX2_plan_46 : decode cX2_plan 46 = .ok (.aload_n 1, 1) := by decide +kernel
theorem dX2_plan_47 : decode cX2_plan 47 = .ok (.getfield 52, 3) := by decide +kernel
theorem dX2_plan_50 : decode cX2_plan 50 = .ok (.iconst 0, 1) := by decide +kernel
theorem dX2_plan_51 : decode cX2_plan 51 = .ok (.invokevirtual 55, 3) := by decide +kernel
theorem dX2_plan_54 : decode cX2_plan 54 = .ok (.return_, 1) := by decide +kernel
theorem dX2_tryEach_0 : decode cX2_tryEach 0 = .ok (.iload_n 2, 1) := by decide +kernel
theorem dX2_tryEach_1 : decode cX2_tryEach 1 = .ok (.ifCond .ne 12, 3) := by decide +kernel
theorem dX2_tryEach_4 : decode cX2_tryEach 4 = .ok (.aload_n 0, 1) := by decide +kernel
theorem dX2_tryEach_5 : decode cX2_tryEach 5 = .ok (.iload_n 1, 1) := by decide +kernel
theorem dX2_tryEach_6 : decode cX2_tryEach 6 = .ok (.iload_n 3, 1) := by decide +kernel
theorem dX2_tryEach_7 : decode cX2_tryEach 7 = .ok (.iload 5, 2) := by decide +kernel
theorem dX2_tryEach_9 : decode cX2_tryEach 9 = .ok (.invokevirtual 59, 3) := by decide +kernel
theorem dX2_tryEach_12 : decode cX2_tryEach 12 = .ok (.return_, 1) := by decide +kernel
theorem dX2_tryEach_13 : decode cX2_tryEach 13 = .ok (.iload_n 1, 1) := by decide +kernel
theorem dX2_tryEach_14 : decode cX2_tryEach 14 = .ok (.bipush 6, 2) := by decide +kernel
theorem dX2_tryEach_16 : decode cX2_tryEach 16 = .ok (.if_icmp .ge 10, 3) := by decide +kernel
theorem dX2_tryEach_19 : decode cX2_tryEach 19 = .ok (.aload_n 0, 1) := by decide +kernel
theorem dX2_tryEach_20 : decode cX2_tryEach 20 = .ok (.getfield 23, 3) := by decide +kernel
theorem dX2_tryEach_23 : decode cX2_tryEach 23 = .ok (.ifnonnull 4, 3) := by decide +kernel
theorem dX2_tryEach_26 : decode cX2_tryEach 26 = .ok (.return_, 1) := by decide +kernel
theorem dX2_tryEach_27 : decode cX2_tryEach 27 = .ok (.iconst 0, 1) := by decide +kernel
theorem dX2_tryEach_28 : decode cX2_tryEach 28 = .ok (.istore 6, 2) := by decide +kernel
theorem dX2_tryEach_30 : decode cX2_tryEach 30 = .ok (.iload 6, 2) := by decide +kernel
theorem dX2_tryEach_32 : decode cX2_tryEach 32 = .ok (.aload_n 0, 1) := by decide +kernel
theorem dX2_tryEach_33 : decode cX2_tryEach 33 = .ok (.getfield 23, 3) := by decide +kernel
theorem dX2_tryEach_36 : decode cX2_tryEach 36 = .ok (.getfield 63, 3) := by decide +kernel
theorem dX2_tryEach_39 : decode cX2_tryEach 39 = .ok (.if_icmp .ge 50, 3) := by decide +kernel
theorem dX2_tryEach_42 : decode cX2_tryEach 42 = .ok (.iload_n 2, 1) := by decide +kernel
theorem dX2_tryEach_43 : decode cX2_tryEach 43 = .ok (.iload 6, 2) := by decide +kernel
theorem dX2_tryEach_45 : decode cX2_tryEach 45 = .ok (.invokestatic 66, 3) := by decide +kernel
theorem dX2_tryEach_48 : decode cX2_tryEach 48 = .ok (.ifCond .eq 35, 3) := by decide +kernel
theorem dX2_tryEach_51 : decode cX2_tryEach 51 = .ok (.aload_n 0, 1) := by decide +kernel
theorem dX2_tryEach_52 : decode cX2_tryEach 52 = .ok (.getfield 27, 3) := by decide +kernel
theorem dX2_tryEach_55 : decode cX2_tryEach 55 = .ok (.iload_n 2, 1) := by decide +kernel
theorem dX2_tryEach_56 : decode cX2_tryEach 56 = .ok (.iload 6, 2) := by decide +kernel
theorem dX2_tryEach_58 : decode cX2_tryEach 58 = .ok (.invokestatic 70, 3) := by decide +kernel
theorem dX2_tryEach_61 : decode cX2_tryEach 61 = .ok (.ifCond .eq 22, 3) := by decide +kernel
theorem dX2_tryEach_64 : decode cX2_tryEach 64 = .ok (.aload_n 0, 1) := by decide +kernel
theorem dX2_tryEach_65 : decode cX2_tryEach 65 = .ok (.getfield 16, 3) := by decide +kernel
theorem dX2_tryEach_68 : decode cX2_tryEach 68 = .ok (.iload_n 1, 1) := by decide +kernel
theorem dX2_tryEach_69 : decode cX2_tryEach 69 = .ok (.iload 6, 2) := by decide +kernel
theorem dX2_tryEach_71 : decode cX2_tryEach 71 = .ok (.iastore, 1) := by decide +kernel
theorem dX2_tryEach_72 : decode cX2_tryEach 72 = .ok (.aload_n 0, 1) := by decide +kernel
theorem dX2_tryEach_73 : decode cX2_tryEach 73 = .ok (.iload_n 1, 1) := by decide +kernel
theorem dX2_tryEach_74 : decode cX2_tryEach 74 = .ok (.iload_n 2, 1) := by decide +kernel
theorem dX2_tryEach_75 : decode cX2_tryEach 75 = .ok (.iload_n 3, 1) := by decide +kernel
theorem dX2_tryEach_76 : decode cX2_tryEach 76 = .ok (.iload 4, 2) := by decide +kernel
theorem dX2_tryEach_78 : decode cX2_tryEach 78 = .ok (.iload 5, 2) := by decide +kernel
theorem dX2_tryEach_80 : decode cX2_tryEach 80 = .ok (.invokevirtual 74, 3) := by decide +kernel
theorem dX2_tryEach_83 : decode cX2_tryEach 83 = .ok (.iinc 6 1, 3) := by decide +kernel
theorem dX2_tryEach_86 : decode cX2_tryEach 86 = .ok (.goto (-56), 3) := by decide +kernel
theorem dX2_tryEach_89 : decode cX2_tryEach 89 = .ok (.return_, 1) := by decide +kernel
theorem dX2_payNext_0 : decode cX2_payNext 0 = .ok (.aload_n 0, 1) := by decide +kernel
theorem dX2_payNext_1 : decode cX2_payNext 1 = .ok (.getfield 11, 3) := by decide +kernel
theorem dX2_payNext_4 : decode cX2_payNext 4 = .ok (.iload_n 1, 1) := by decide +kernel
theorem dX2_payNext_5 : decode cX2_payNext 5 = .ok (.iconst 1, 1) := by decide +kernel
theorem dX2_payNext_6 : decode cX2_payNext 6 = .ok (.iadd, 1) := by decide +kernel
theorem dX2_payNext_7 : decode cX2_payNext 7 = .ok (.aaload, 1) := by decide +kernel
theorem dX2_payNext_8 : decode cX2_payNext 8 = .ok (.astore 6, 2) := by decide +kernel
theorem dX2_payNext_10 : decode cX2_payNext 10 = .ok (.aload_n 0, 1) := by decide +kernel
theorem dX2_payNext_11 : decode cX2_payNext 11 = .ok (.getfield 11, 3) := by decide +kernel
theorem dX2_payNext_14 : decode cX2_payNext 14 = .ok (.iload_n 1, 1) := by decide +kernel
theorem dX2_payNext_15 : decode cX2_payNext 15 = .ok (.aaload, 1) := by decide +kernel
theorem dX2_payNext_16 : decode cX2_payNext 16 = .ok (.iconst 0, 1) := by decide +kernel
theorem dX2_payNext_17 : decode cX2_payNext 17 = .ok (.aload 6, 2) := by decide +kernel
theorem dX2_payNext_19 : decode cX2_payNext 19 = .ok (.iconst 0, 1) := by decide +kernel
theorem dX2_payNext_20 : decode cX2_payNext 20 = .ok (.bipush 8, 2) := by decide +kernel
theorem dX2_payNext_22 : decode cX2_payNext 22 = .ok (.invokestatic 42, 3) := by decide +kernel
theorem dX2_payNext_25 : decode cX2_payNext 25 = .ok (.aload_n 0, 1) := by decide +kernel
theorem dX2_payNext_26 : decode cX2_payNext 26 = .ok (.getfield 16, 3) := by decide +kernel
theorem dX2_payNext_29 : decode cX2_payNext 29 = .ok (.iload_n 1, 1) := by decide +kernel
theorem dX2_payNext_30 : decode cX2_payNext 30 = .ok (.iaload, 1) := by decide +kernel
theorem dX2_payNext_31 : decode cX2_payNext 31 = .ok (.istore 7, 2) := by decide +kernel
theorem dX2_payNext_33 : decode cX2_payNext 33 = .ok (.aload_n 0, 1) := by decide +kernel
theorem dX2_payNext_34 : decode cX2_payNext 34 = .ok (.iload_n 2, 1) := by decide +kernel
theorem dX2_payNext_35 : decode cX2_payNext 35 = .ok (.invokevirtual 77, 3) := by decide +kernel
theorem dX2_payNext_38 : decode cX2_payNext 38 = .ok (.istore 8, 2) := by decide +kernel
theorem dX2_payNext_40 : decode cX2_payNext 40 = .ok (.aload_n 0, 1) := by decide +kernel
theorem dX2_payNext_41 : decode cX2_payNext 41 = .ok (.getfield 23, 3) := by decide +kernel
theorem dX2_payNext_44 : decode cX2_payNext 44 = .ok (.getfield 81, 3) := by decide +kernel
theorem dX2_payNext_47 : decode cX2_payNext 47 = .ok (.iload 8, 2) := by decide +kernel
theorem dX2_payNext_49 : decode cX2_payNext 49 = .ok (.isub, 1) := by decide +kernel
theorem dX2_payNext_50 : decode cX2_payNext 50 = .ok (.iconst 0, 1) := by decide +kernel
theorem dX2_payNext_51 : decode cX2_payNext 51 = .ok (.invokestatic 84, 3) := by decide +kernel
theorem dX2_payNext_54 : decode cX2_payNext 54 = .ok (.istore 9, 2) := by decide +kernel
theorem dX2_payNext_56 : decode cX2_payNext 56 = .ok (.aload_n 0, 1) := by decide +kernel
theorem dX2_payNext_57 : decode cX2_payNext 57 = .ok (.getfield 31, 3) := by decide +kernel
theorem dX2_payNext_60 : decode cX2_payNext 60 = .ok (.sipush 360, 3) := by decide +kernel
theorem dX2_payNext_63 : decode cX2_payNext 63 = .ok (.invokestatic 90, 3) := by decide +kernel
theorem dX2_payNext_66 : decode cX2_payNext 66 = .ok (.istore 10, 2) := by decide +kernel
theorem dX2_payNext_68 : decode cX2_payNext 68 = .ok (.iload_n 3, 1) := by decide +kernel
theorem dX2_payNext_69 : decode cX2_payNext 69 = .ok (.istore 11, 2) := by decide +kernel
theorem dX2_payNext_71 : decode cX2_payNext 71 = .ok (.iload 4, 2) := by decide +kernel
theorem dX2_payNext_73 : decode cX2_payNext 73 = .ok (.istore 12, 2) := by decide +kernel
theorem dX2_payNext_75 : decode cX2_payNext 75 = .ok (.iload 12, 2) := by decide +kernel
theorem dX2_payNext_77 : decode cX2_payNext 77 = .ok (.aload 6, 2) := by decide +kernel
theorem dX2_payNext_79 : decode cX2_payNext 79 = .ok (.iload 7, 2) := by decide +kernel
theorem dX2_payNext_81 : decode cX2_payNext 81 = .ok (.iaload, 1) := by decide +kernel
theorem dX2_payNext_82 : decode cX2_payNext 82 = .ok (.if_icmp .ge 59, 3) := by decide +kernel
theorem dX2_payNext_85 : decode cX2_payNext 85 = .ok (.iload 11, 2) := by decide +kernel
theorem dX2_payNext_87 : decode cX2_payNext 87 = .ok (.iload 10, 2) := by decide +kernel
theorem dX2_payNext_89 : decode cX2_payNext 89 = .ok (.if_icmp .ge 52, 3) := by decide +kernel
theorem dX2_payNext_92 : decode cX2_payNext 92 = .ok (.iload 12, 2) := by decide +kernel
theorem dX2_payNext_94 : decode cX2_payNext 94 = .ok (.iload 9, 2) := by decide +kernel
theorem dX2_payNext_96 : decode cX2_payNext 96 = .ok (.iload 10, 2) := by decide +kernel
theorem dX2_payNext_98 : decode cX2_payNext 98 = .ok (.iload 11, 2) := by decide +kernel
theorem dX2_payNext_100 : decode cX2_payNext 100 = .ok (.isub, 1) := by decide +kernel
theorem dX2_payNext_101 : decode cX2_payNext 101 = .ok (.imul, 1) := by decide +kernel
theorem dX2_payNext_102 : decode cX2_payNext 102 = .ok (.iadd, 1) := by decide +kernel
theorem dX2_payNext_103 : decode cX2_payNext 103 = .ok (.aload 6, 2) := by decide +kernel
theorem dX2_payNext_105 : decode cX2_payNext 105 = .ok (.iload 7, 2) := by decide +kernel
theorem dX2_payNext_107 : decode cX2_payNext 107 = .ok (.iaload, 1) := by decide +kernel
theorem dX2_payNext_108 : decode cX2_payNext 108 = .ok (.if_icmp .ge 4, 3) := by decide +kernel
theorem dX2_payNext_111 : decode cX2_payNext 111 = .ok (.return_, 1) := by decide +kernel
theorem dX2_payNext_112 : decode cX2_payNext 112 = .ok (.iload 12, 2) := by decide +kernel
theorem dX2_payNext_114 : decode cX2_payNext 114 = .ok (.aload_n 0, 1) := by decide +kernel
theorem dX2_payNext_115 : decode cX2_payNext 115 = .ok (.getfield 23, 3) := by decide +kernel
theorem dX2_payNext_118 : decode cX2_payNext 118 = .ok (.getfield 81, 3) := by decide +kernel
theorem dX2_payNext_121 : decode cX2_payNext 121 = .ok (.iload 8, 2) := by decide +kernel
theorem dX2_payNext_123 : decode cX2_payNext 123 = .ok (.invokestatic 93, 3) := by decide +kernel
theorem dX2_payNext_126 : decode cX2_payNext 126 = .ok (.istore 12, 2) := by decide +kernel
theorem dX2_payNext_128 : decode cX2_payNext 128 = .ok (.aload_n 0, 1) := by decide +kernel
theorem dX2_payNext_129 : decode cX2_payNext 129 = .ok (.aload 6, 2) := by decide +kernel
theorem dX2_payNext_131 : decode cX2_payNext 131 = .ok (.iload_n 2, 1) := by decide +kernel
theorem dX2_payNext_132 : decode cX2_payNext 132 = .ok (.invokevirtual 97, 3) := by decide +kernel
theorem dX2_payNext_135 : decode cX2_payNext 135 = .ok (.iinc 11 1, 3) := by decide +kernel
theorem dX2_payNext_138 : decode cX2_payNext 138 = .ok (.goto (-63), 3) := by decide +kernel
theorem dX2_payNext_141 : decode cX2_payNext 141 = .ok (.aload 6, 2) := by decide +kernel
theorem dX2_payNext_143 : decode cX2_payNext 143 = .ok (.iload 7, 2) := by decide +kernel
theorem dX2_payNext_145 : decode cX2_payNext 145 = .ok (.iaload, 1) := by decide +kernel
theorem dX2_payNext_146 : decode cX2_payNext 146 = .ok (.istore 13, 2) := by decide +kernel
theorem dX2_payNext_148 : decode cX2_payNext 148 = .ok (.iload 12, 2) := by decide +kernel
theorem dX2_payNext_150 : decode cX2_payNext 150 = .ok (.iload 13, 2) := by decide +kernel
theorem dX2_payNext_152 : decode cX2_payNext 152 = .ok (.if_icmp .lt 30, 3) := by decide +kernel
theorem dX2_payNext_155 : decode cX2_payNext 155 = .ok (.aload_n 0, 1) := by decide +kernel
theorem dX2_payNext_156 : decode cX2_payNext 156 = .ok (.iload_n 1, 1) := by decide +kernel
theorem dX2_payNext_157 : decode cX2_payNext 157 = .ok (.iconst 1, 1) := by decide +kernel
theorem dX2_payNext_158 : decode cX2_payNext 158 = .ok (.iadd, 1) := by decide +kernel
theorem dX2_payNext_159 : decode cX2_payNext 159 = .ok (.iload_n 2, 1) := by decide +kernel
theorem dX2_payNext_160 : decode cX2_payNext 160 = .ok (.iconst 1, 1) := by decide +kernel
theorem dX2_payNext_161 : decode cX2_payNext 161 = .ok (.iload 7, 2) := by decide +kernel
theorem dX2_payNext_163 : decode cX2_payNext 163 = .ok (.ishl, 1) := by decide +kernel
theorem dX2_payNext_164 : decode cX2_payNext 164 = .ok (.iconst (-1), 1) := by decide +kernel
theorem dX2_payNext_165 : decode cX2_payNext 165 = .ok (.ixor, 1) := by decide +kernel
theorem dX2_payNext_166 : decode cX2_payNext 166 = .ok (.iand, 1) := by decide +kernel
theorem dX2_payNext_167 : decode cX2_payNext 167 = .ok (.iload 11, 2) := by decide +kernel
theorem dX2_payNext_169 : decode cX2_payNext 169 = .ok (.iload 12, 2) := by decide +kernel
theorem dX2_payNext_171 : decode cX2_payNext 171 = .ok (.iload 13, 2) := by decide +kernel
theorem dX2_payNext_173 : decode cX2_payNext 173 = .ok (.isub, 1) := by decide +kernel
theorem dX2_payNext_174 : decode cX2_payNext 174 = .ok (.iload 5, 2) := by decide +kernel
theorem dX2_payNext_176 : decode cX2_payNext 176 = .ok (.iload 13, 2) := by decide +kernel
theorem dX2_payNext_178 : decode cX2_payNext 178 = .ok (.iadd, 1) := by decide +kernel
theorem dX2_payNext_179 : decode cX2_payNext 179 = .ok (.invokevirtual 55, 3) := by decide +kernel
theorem dX2_payNext_182 : decode cX2_payNext 182 = .ok (.return_, 1) := by decide +kernel
theorem dX2_taxesOf_0 : decode cX2_taxesOf 0 = .ok (.iconst 0, 1) := by decide +kernel
theorem dX2_taxesOf_1 : decode cX2_taxesOf 1 = .ok (.istore_n 2, 1) := by decide +kernel
theorem dX2_taxesOf_2 : decode cX2_taxesOf 2 = .ok (.iconst 0, 1) := by decide +kernel
theorem dX2_taxesOf_3 : decode cX2_taxesOf 3 = .ok (.istore_n 3, 1) := by decide +kernel
theorem dX2_taxesOf_4 : decode cX2_taxesOf 4 = .ok (.iload_n 3, 1) := by decide +kernel
theorem dX2_taxesOf_5 : decode cX2_taxesOf 5 = .ok (.aload_n 0, 1) := by decide +kernel
theorem dX2_taxesOf_6 : decode cX2_taxesOf 6 = .ok (.getfield 23, 3) := by decide +kernel
theorem dX2_taxesOf_9 : decode cX2_taxesOf 9 = .ok (.getfield 63, 3) := by decide +kernel
theorem dX2_taxesOf_12 : decode cX2_taxesOf 12 = .ok (.if_icmp .ge 37, 3) := by decide +kernel
theorem dX2_taxesOf_15 : decode cX2_taxesOf 15 = .ok (.iload_n 1, 1) := by decide +kernel
theorem dX2_taxesOf_16 : decode cX2_taxesOf 16 = .ok (.iload_n 3, 1) := by decide +kernel
theorem dX2_taxesOf_17 : decode cX2_taxesOf 17 = .ok (.invokestatic 66, 3) := by decide +kernel
theorem dX2_taxesOf_20 : decode cX2_taxesOf 20 = .ok (.ifCond .eq 23, 3) := by decide +kernel
theorem dX2_taxesOf_23 : decode cX2_taxesOf 23 = .ok (.iload_n 2, 1) := by decide +kernel
theorem dX2_taxesOf_24 : decode cX2_taxesOf 24 = .ok (.aload_n 0, 1) := by decide +kernel
theorem dX2_taxesOf_25 : decode cX2_taxesOf 25 = .ok (.getfield 23, 3) := by decide +kernel
theorem dX2_taxesOf_28 : decode cX2_taxesOf 28 = .ok (.getfield 101, 3) := by decide +kernel
theorem dX2_taxesOf_31 : decode cX2_taxesOf 31 = .ok (.aload_n 0, 1) := by decide +kernel
theorem dX2_taxesOf_32 : decode cX2_taxesOf 32 = .ok (.getfield 23, 3) := by decide +kernel
theorem dX2_taxesOf_35 : decode cX2_taxesOf 35 = .ok (.getfield 104, 3) := by decide +kernel
theorem dX2_taxesOf_38 : decode cX2_taxesOf 38 = .ok (.iload_n 3, 1) := by decide +kernel
theorem dX2_taxesOf_39 : decode cX2_taxesOf 39 = .ok (.iaload, 1) := by decide +kernel
theorem dX2_taxesOf_40 : decode cX2_taxesOf 40 = .ok (.iaload, 1) := by decide +kernel
theorem dX2_taxesOf_41 : decode cX2_taxesOf 41 = .ok (.iadd, 1) := by decide +kernel
theorem dX2_taxesOf_42 : decode cX2_taxesOf 42 = .ok (.istore_n 2, 1) := by decide +kernel
theorem dX2_taxesOf_43 : decode cX2_taxesOf 43 = .ok (.iinc 3 1, 3) := by decide +kernel
theorem dX2_taxesOf_46 : decode cX2_taxesOf 46 = .ok (.goto (-42), 3) := by decide +kernel
theorem dX2_taxesOf_49 : decode cX2_taxesOf 49 = .ok (.iload_n 2, 1) := by decide +kernel
theorem dX2_taxesOf_50 : decode cX2_taxesOf 50 = .ok (.ireturn, 1) := by decide +kernel
theorem dX2_growAmounts_0 : decode cX2_growAmounts 0 = .ok (.iconst 0, 1) := by decide +kernel
theorem dX2_growAmounts_1 : decode cX2_growAmounts 1 = .ok (.istore_n 3, 1) := by decide +kernel
theorem dX2_growAmounts_2 : decode cX2_growAmounts 2 = .ok (.iload_n 3, 1) := by decide +kernel
theorem dX2_growAmounts_3 : decode cX2_growAmounts 3 = .ok (.aload_n 0, 1) := by decide +kernel
theorem dX2_growAmounts_4 : decode cX2_growAmounts 4 = .ok (.getfield 23, 3) := by decide +kernel
theorem dX2_growAmounts_7 : decode cX2_growAmounts 7 = .ok (.getfield 63, 3) := by decide +kernel
theorem dX2_growAmounts_10 : decode cX2_growAmounts 10 = .ok (.if_icmp .ge 35, 3) := by decide +kernel
theorem dX2_growAmounts_13 : decode cX2_growAmounts 13 = .ok (.iload_n 2, 1) := by decide +kernel
theorem dX2_growAmounts_14 : decode cX2_growAmounts 14 = .ok (.iload_n 3, 1) := by decide +kernel
theorem dX2_growAmounts_15 : decode cX2_growAmounts 15 = .ok (.invokestatic 66, 3) := by decide +kernel
theorem dX2_growAmounts_18 : decode cX2_growAmounts 18 = .ok (.ifCond .eq 21, 3) := by decide +kernel
theorem dX2_growAmounts_21 : decode cX2_growAmounts 21 = .ok (.aload_n 1, 1) := by decide +kernel
theorem dX2_growAmounts_22 : decode cX2_growAmounts 22 = .ok (.iload_n 3, 1) := by decide +kernel
theorem dX2_growAmounts_23 : decode cX2_growAmounts 23 = .ok (.aload_n 1, 1) := by decide +kernel
theorem dX2_growAmounts_24 : decode cX2_growAmounts 24 = .ok (.iload_n 3, 1) := by decide +kernel
theorem dX2_growAmounts_25 : decode cX2_growAmounts 25 = .ok (.iaload, 1) := by decide +kernel
theorem dX2_growAmounts_26 : decode cX2_growAmounts 26 = .ok (.aload_n 0, 1) := by decide +kernel
theorem dX2_growAmounts_27 : decode cX2_growAmounts 27 = .ok (.getfield 23, 3) := by decide +kernel
theorem dX2_growAmounts_30 : decode cX2_growAmounts 30 = .ok (.getfield 107, 3) := by decide +kernel
theorem dX2_growAmounts_33 : decode cX2_growAmounts 33 = .ok (.iload_n 3, 1) := by decide +kernel
theorem dX2_growAmounts_34 : decode cX2_growAmounts 34 = .ok (.iaload, 1) := by decide +kernel
theorem dX2_growAmounts_35 : decode cX2_growAmounts 35 = .ok (.invokestatic 110, 3) := by decide +kernel
theorem dX2_growAmounts_38 : decode cX2_growAmounts 38 = .ok (.iastore, 1) := by decide +kernel
theorem dX2_growAmounts_39 : decode cX2_growAmounts 39 = .ok (.iinc 3 1, 3) := by decide +kernel
theorem dX2_growAmounts_42 : decode cX2_growAmounts 42 = .ok (.goto (-40), 3) := by decide +kernel
theorem dX2_growAmounts_45 : decode cX2_growAmounts 45 = .ok (.return_, 1) := by decide +kernel
theorem dX2_keepIfBetter_0 : decode cX2_keepIfBetter 0 = .ok (.iload_n 2, 1) := by decide +kernel
theorem dX2_keepIfBetter_1 : decode cX2_keepIfBetter 1 = .ok (.aload_n 0, 1) := by decide +kernel
theorem dX2_keepIfBetter_2 : decode cX2_keepIfBetter 2 = .ok (.getfield 31, 3) := by decide +kernel
theorem dX2_keepIfBetter_5 : decode cX2_keepIfBetter 5 = .ok (.if_icmp .lt 19, 3) := by decide +kernel
theorem dX2_keepIfBetter_8 : decode cX2_keepIfBetter 8 = .ok (.iload_n 2, 1) := by decide +kernel
theorem dX2_keepIfBetter_9 : decode cX2_keepIfBetter 9 = .ok (.aload_n 0, 1) := by decide +kernel
theorem dX2_keepIfBetter_10 : decode cX2_keepIfBetter 10 = .ok (.getfield 31, 3) := by decide +kernel
theorem dX2_keepIfBetter_13 : decode cX2_keepIfBetter 13 = .ok (.if_icmp .ne 35, 3) := by decide +kernel
theorem dX2_keepIfBetter_16 : decode cX2_keepIfBetter 16 = .ok (.iload_n 3, 1) := by decide +kernel
theorem dX2_keepIfBetter_17 : decode cX2_keepIfBetter 17 = .ok (.aload_n 0, 1) := by decide +kernel
theorem dX2_keepIfBetter_18 : decode cX2_keepIfBetter 18 = .ok (.getfield 34, 3) := by decide +kernel
theorem dX2_keepIfBetter_21 : decode cX2_keepIfBetter 21 = .ok (.if_icmp .ge 27, 3) := by decide +kernel
theorem dX2_keepIfBetter_24 : decode cX2_keepIfBetter 24 = .ok (.aload_n 0, 1) := by decide +kernel
theorem dX2_keepIfBetter_25 : decode cX2_keepIfBetter 25 = .ok (.iload_n 2, 1) := by decide +kernel
theorem dX2_keepIfBetter_26 : decode cX2_keepIfBetter 26 = .ok (.putfield 31, 3) := by decide +kernel
theorem dX2_keepIfBetter_29 : decode cX2_keepIfBetter 29 = .ok (.aload_n 0, 1) := by decide +kernel
theorem dX2_keepIfBetter_30 : decode cX2_keepIfBetter 30 = .ok (.iload_n 3, 1) := by decide +kernel
theorem dX2_keepIfBetter_31 : decode cX2_keepIfBetter 31 = .ok (.putfield 34, 3) := by decide +kernel
theorem dX2_keepIfBetter_34 : decode cX2_keepIfBetter 34 = .ok (.aload_n 0, 1) := by decide +kernel
theorem dX2_keepIfBetter_35 : decode cX2_keepIfBetter 35 = .ok (.getfield 16, 3) := by decide +kernel
theorem dX2_keepIfBetter_38 : decode cX2_keepIfBetter 38 = .ok (.iconst 0, 1) := by decide +kernel
theorem dX2_keepIfBetter_39 : decode cX2_keepIfBetter 39 = .ok (.aload_n 0, 1) := by decide +kernel
theorem dX2_keepIfBetter_40 : decode cX2_keepIfBetter 40 = .ok (.getfield 20, 3) := by decide +kernel
theorem dX2_keepIfBetter_43 : decode cX2_keepIfBetter 43 = .ok (.iconst 0, 1) := by decide +kernel
theorem dX2_keepIfBetter_44 : decode cX2_keepIfBetter 44 = .ok (.iload_n 1, 1) := by decide +kernel
theorem dX2_keepIfBetter_45 : decode cX2_keepIfBetter 45 = .ok (.invokestatic 42, 3) := by decide +kernel
theorem dX2_keepIfBetter_48 : decode cX2_keepIfBetter 48 = .ok (.return_, 1) := by decide +kernel
