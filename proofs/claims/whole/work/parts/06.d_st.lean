theorem dX6_isWithin_0 : decode cX6_isWithin 0 = .ok (.iload_n 0, 1) := by decide +kernel
theorem dX6_isWithin_1 : decode cX6_isWithin 1 = .ok (.iload_n 1, 1) := by decide +kernel
theorem dX6_isWithin_2 : decode cX6_isWithin 2 = .ok (.if_icmp .lt 12, 3) := by decide +kernel
theorem dX6_isWithin_5 : decode cX6_isWithin 5 = .ok (.iload_n 0, 1) := by decide +kernel
theorem dX6_isWithin_6 : decode cX6_isWithin 6 = .ok (.iload_n 2, 1) := by decide +kernel
theorem dX6_isWithin_7 : decode cX6_isWithin 7 = .ok (.if_icmp .gt 7, 3) := by decide +kernel
theorem dX6_isWithin_10 : decode cX6_isWithin 10 = .ok (.iconst 1, 1) := by decide +kernel
theorem dX6_isWithin_11 : decode cX6_isWithin 11 = .ok (.goto 4, 3) := by decide +kernel
theorem dX6_isWithin_14 : decode cX6_isWithin 14 = .ok (.iconst 0, 1) := by decide +kernel
theorem dX6_isWithin_15 : decode cX6_isWithin 15 = .ok (.ireturn, 1) := by decide +kernel
theorem dX6_isLender_0 : decode cX6_isLender 0 = .ok (.iload_n 0, 1) := by decide +kernel
theorem dX6_isLender_1 : decode cX6_isLender 1 = .ok (.iconst 0, 1) := by decide +kernel
theorem dX6_isLender_2 : decode cX6_isLender 2 = .ok (.iconst 4, 1) := by decide +kernel
theorem dX6_isLender_3 : decode cX6_isLender 3 = .ok (.invokestatic 61, 3) := by decide +kernel
theorem dX6_isLender_6 : decode cX6_isLender 6 = .ok (.ireturn, 1) := by decide +kernel
theorem dX6_isSheet_0 : decode cX6_isSheet 0 = .ok (.iload_n 0, 1) := by decide +kernel
theorem dX6_isSheet_1 : decode cX6_isSheet 1 = .ok (.iconst 0, 1) := by decide +kernel
theorem dX6_isSheet_2 : decode cX6_isSheet 2 = .ok (.iconst 3, 1) := by decide +kernel
theorem dX6_isSheet_3 : decode cX6_isSheet 3 = .ok (.invokestatic 61, 3) := by decide +kernel
theorem dX6_isSheet_6 : decode cX6_isSheet 6 = .ok (.ireturn, 1) := by decide +kernel
theorem dX6_isLane_0 : decode cX6_isLane 0 = .ok (.iload_n 0, 1) := by decide +kernel
theorem dX6_isLane_1 : decode cX6_isLane 1 = .ok (.iconst 0, 1) := by decide +kernel
theorem dX6_isLane_2 : decode cX6_isLane 2 = .ok (.iconst 2, 1) := by decide +kernel
theorem dX6_isLane_3 : decode cX6_isLane 3 = .ok (.invokestatic 61, 3) := by decide +kernel
theorem dX6_isLane_6 : decode cX6_isLane 6 = .ok (.ireturn, 1) := by decide +kernel
theorem dX6_isIn_0 : decode cX6_isIn 0 = .ok (.iload_n 0, 1) := by decide +kernel
theorem dX6_isIn_1 : decode cX6_isIn 1 = .ok (.iload_n 1, 1) := by decide +kernel
theorem dX6_isIn_2 : decode cX6_isIn 2 = .ok (.ishr, 1) := by decide +kernel
theorem dX6_isIn_3 : decode cX6_isIn 3 = .ok (.iconst 1, 1) := by decide +kernel
theorem dX6_isIn_4 : decode cX6_isIn 4 = .ok (.iand, 1) := by decide +kernel
theorem dX6_isIn_5 : decode cX6_isIn 5 = .ok (.ifCond .eq 7, 3) := by decide +kernel
theorem dX6_isIn_8 : decode cX6_isIn 8 = .ok (.iconst 1, 1) := by decide +kernel
theorem dX6_isIn_9 : decode cX6_isIn 9 = .ok (.goto 4, 3) := by decide +kernel
theorem dX6_isIn_12 : decode cX6_isIn 12 = .ok (.iconst 0, 1) := by decide +kernel
theorem dX6_isIn_13 : decode cX6_isIn 13 = .ok (.ireturn, 1) := by decide +kernel
theorem dX6_mayComeOff_0 : decode cX6_mayComeOff 0 = .ok (.iload_n 1, 1) := by decide +kernel
theorem dX6_mayComeOff_1 : decode cX6_mayComeOff 1 = .ok (.iconst 1, 1) := by decide +kernel
theorem dX6_mayComeOff_2 : decode cX6_mayComeOff 2 = .ok (.iload_n 2, 1) := by decide +kernel
theorem dX6_mayComeOff_3 : decode cX6_mayComeOff 3 = .ok (.ishl, 1) := by decide +kernel
theorem dX6_mayComeOff_4 : decode cX6_mayComeOff 4 = .ok (.iconst 1, 1) := by decide +kernel
theorem dX6_mayComeOff_5 : decode cX6_mayComeOff 5 = .ok (.isub, 1) := by decide +kernel
theorem dX6_mayComeOff_6 : decode cX6_mayComeOff 6 = .ok (.iand, 1) := by decide +kernel
theorem dX6_mayComeOff_7 : decode cX6_mayComeOff 7 = .ok (.ifCond .ne 7, 3) := by decide +kernel
theorem dX6_mayComeOff_10 : decode cX6_mayComeOff 10 = .ok (.iconst 1, 1) := by decide +kernel
theorem dX6_mayComeOff_11 : decode cX6_mayComeOff 11 = .ok (.goto 4, 3) := by decide +kernel
theorem dX6_mayComeOff_14 : decode cX6_mayComeOff 14 = .ok (.iconst 0, 1) := by decide +kernel
theorem dX6_mayComeOff_15 : decode cX6_mayComeOff 15 = .ok (.istore_n 3, 1) := by decide +kernel
theorem dX6_mayComeOff_16 : decode cX6_mayComeOff 16 = .ok (.iload_n 1, 1) := by decide +kernel
theorem dX6_mayComeOff_17 : decode cX6_mayComeOff 17 = .ok (.iload_n 2, 1) := by decide +kernel
theorem dX6_mayComeOff_18 : decode cX6_mayComeOff 18 = .ok (.iconst 1, 1) := by decide +kernel
theorem dX6_mayComeOff_19 : decode cX6_mayComeOff 19 = .ok (.iadd, 1) := by decide +kernel
theorem dX6_mayComeOff_20 : decode cX6_mayComeOff 20 = .ok (.ishr, 1) := by decide +kernel
theorem dX6_mayComeOff_21 : decode cX6_mayComeOff 21 = .ok (.ifCond .ne 7, 3) := by decide +kernel
theorem dX6_mayComeOff_24 : decode cX6_mayComeOff 24 = .ok (.iconst 1, 1) := by decide +kernel
theorem dX6_mayComeOff_25 : decode cX6_mayComeOff 25 = .ok (.goto 4, 3) := by decide +kernel
theorem dX6_mayComeOff_28 : decode cX6_mayComeOff 28 = .ok (.iconst 0, 1) := by decide +kernel
theorem dX6_mayComeOff_29 : decode cX6_mayComeOff 29 = .ok (.istore 4, 2) := by decide +kernel
theorem dX6_mayComeOff_31 : decode cX6_mayComeOff 31 = .ok (.iload_n 0, 1) := by decide +kernel
theorem dX6_mayComeOff_32 : decode cX6_mayComeOff 32 = .ok (.ifCond .ne 6, 3) := by decide +kernel
theorem dX6_mayComeOff_35 : decode cX6_mayComeOff 35 = .ok (.iload 4, 2) := by decide +kernel
theorem dX6_mayComeOff_37 : decode cX6_mayComeOff 37 = .ok (.ireturn, 1) := by decide +kernel
theorem dX6_mayComeOff_38 : decode cX6_mayComeOff 38 = .ok (.iload_n 0, 1) := by decide +kernel
theorem dX6_mayComeOff_39 : decode cX6_mayComeOff 39 = .ok (.iconst 1, 1) := by decide +kernel
theorem dX6_mayComeOff_40 : decode cX6_mayComeOff 40 = .ok (.if_icmp .ne 5, 3) := by decide +kernel
theorem dX6_mayComeOff_43 : decode cX6_mayComeOff 43 = .ok (.iload_n 3, 1) := by decide +kernel
theorem dX6_mayComeOff_44 : decode cX6_mayComeOff 44 = .ok (.ireturn, 1) := by decide +kernel
theorem dX6_mayComeOff_45 : decode cX6_mayComeOff 45 = .ok (.iload_n 3, 1) := by decide +kernel
theorem dX6_mayComeOff_46 : decode cX6_mayComeOff 46 = .ok (.ifCond .eq 8, 3) := by decide +kernel
theorem dX6_mayComeOff_49 : decode cX6_mayComeOff 49 = .ok (.iload 4, 2) := by decide +kernel
theorem dX6_mayComeOff_51 : decode cX6_mayComeOff 51 = .ok (.ifCond .eq 7, 3) := by decide +kernel
theorem dX6_mayComeOff_54 : decode cX6_mayComeOff 54 = .ok (.iconst 1, 1) := by decide +kernel
theorem dX6_mayComeOff_55 : decode cX6_mayComeOff 55 = .ok (.goto 4, 3) := by decide +kernel
theorem dX6_mayComeOff_58 : decode cX6_mayComeOff 58 = .ok (.iconst 0, 1) := by decide +kernel
theorem dX6_mayComeOff_59 : decode cX6_mayComeOff 59 = .ok (.ireturn, 1) := by decide +kernel
theorem dX6_amountNextDay_0 : decode cX6_amountNextDay 0 = .ok (.iload_n 0, 1) := by decide +kernel
theorem dX6_amountNextDay_1 : decode cX6_amountNextDay 1 = .ok (.iload_n 0, 1) := by decide +kernel
theorem dX6_amountNextDay_2 : decode cX6_amountNextDay 2 = .ok (.iload_n 1, 1) := by decide +kernel
theorem dX6_amountNextDay_3 : decode cX6_amountNextDay 3 = .ok (.imul, 1) := by decide +kernel
theorem dX6_amountNextDay_4 : decode cX6_amountNextDay 4 = .ok (.bipush 100, 2) := by decide +kernel
theorem dX6_amountNextDay_6 : decode cX6_amountNextDay 6 = .ok (.idiv, 1) := by decide +kernel
theorem dX6_amountNextDay_7 : decode cX6_amountNextDay 7 = .ok (.iadd, 1) := by decide +kernel
theorem dX6_amountNextDay_8 : decode cX6_amountNextDay 8 = .ok (.ldc 180, 2) := by decide +kernel
theorem dX6_amountNextDay_10 : decode cX6_amountNextDay 10 = .ok (.invokestatic 101, 3) := by decide +kernel
theorem dX6_amountNextDay_13 : decode cX6_amountNextDay 13 = .ok (.ireturn, 1) := by decide +kernel
theorem dX6_purseNextDay_0 : decode cX6_purseNextDay 0 = .ok (.iload_n 0, 1) := by decide +kernel
theorem dX6_purseNextDay_1 : decode cX6_purseNextDay 1 = .ok (.iload_n 1, 1) := by decide +kernel
theorem dX6_purseNextDay_2 : decode cX6_purseNextDay 2 = .ok (.iadd, 1) := by decide +kernel
theorem dX6_purseNextDay_3 : decode cX6_purseNextDay 3 = .ok (.iload_n 2, 1) := by decide +kernel
theorem dX6_purseNextDay_4 : decode cX6_purseNextDay 4 = .ok (.isub, 1) := by decide +kernel
theorem dX6_purseNextDay_5 : decode cX6_purseNextDay 5 = .ok (.iconst 0, 1) := by decide +kernel
theorem dX6_purseNextDay_6 : decode cX6_purseNextDay 6 = .ok (.invokestatic 299, 3) := by decide +kernel
theorem dX6_purseNextDay_9 : decode cX6_purseNextDay 9 = .ok (.ldc 180, 2) := by decide +kernel
theorem dX6_purseNextDay_11 : decode cX6_purseNextDay 11 = .ok (.invokestatic 101, 3) := by decide +kernel
theorem dX6_purseNextDay_14 : decode cX6_purseNextDay 14 = .ok (.ireturn, 1) := by decide +kernel
theorem dJ7_fill_53178_0 : decode cJ7_fill_53178 0 = .ok (.iconst 0, 1) := by decide +kernel
theorem dJ7_fill_53178_1 : decode cJ7_fill_53178 1 = .ok (.istore_n 2, 1) := by decide +kernel
theorem dJ7_fill_53178_2 : decode cJ7_fill_53178 2 = .ok (.aload_n 0, 1) := by decide +kernel
theorem dJ7_fill_53178_3 : decode cJ7_fill_53178 3 = .ok (.arraylength, 1) := by decide +kernel
theorem dJ7_fill_53178_4 : decode cJ7_fill_53178 4 = .ok (.istore_n 3, 1) := by decide +kernel
theorem dJ7_fill_53178_5 : decode cJ7_fill_53178 5 = .ok (.iload_n 2, 1) := by decide +kernel
theorem dJ7_fill_53178_6 : decode cJ7_fill_53178 6 = .ok (.iload_n 3, 1) := by decide +kernel
theorem dJ7_fill_53178_7 : decode cJ7_fill_53178 7 = .ok (.if_icmp .ge 13, 3) := by decide +kernel
theorem dJ7_fill_53178_10 : decode cJ7_fill_53178 10 = .ok (.aload_n 0, 1) := by decide +kernel
theorem dJ7_fill_53178_11 : decode cJ7_fill_53178 11 = .ok (.iload_n 2, 1) := by decide +kernel
theorem dJ7_fill_53178_12 : decode cJ7_fill_53178 12 = .ok (.iload_n 1, 1) := by decide +kernel
theorem dJ7_fill_53178_13 : decode cJ7_fill_53178 13 = .ok (.iastore, 1) := by decide +kernel
theorem dJ7_fill_53178_14 : decode cJ7_fill_53178 14 = .ok (.iinc 2 1, 3) := by decide +kernel
theorem dJ7_fill_53178_17 : decode cJ7_fill_53178 17 = .ok (.goto (-12), 3) := by decide +kernel
theorem dJ7_fill_53178_20 : decode cJ7_fill_53178 20 = .ok (.return_, 1) := by decide +kernel
