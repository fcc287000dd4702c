theorem dX1_init_0 : decode cX1_init 0 = .ok (.aload_n 0, 1) := by decide +kernel
theorem dX1_init_1 : decode cX1_init 1 = .ok (.invokespecial 3, 3) := by decide +kernel
theorem dX1_init_4 : decode cX1_init 4 = .ok (.aload_n 0, 1) := by decide +kernel
theorem dX1_init_5 : decode cX1_init 5 = .ok (.bipush 8, 2) := by decide +kernel
theorem dX1_init_7 : decode cX1_init 7 = .ok (.newarray .int, 2) := by decide +kernel
theorem dX1_init_9 : decode cX1_init 9 = .ok (.putfield 9, 3) := by decide +kernel
theorem dX1_init_12 : decode cX1_init 12 = .ok (.aload_n 0, 1) := by decide +kernel
theorem dX1_init_13 : decode cX1_init 13 = .ok (.bipush 8, 2) := by decide +kernel
theorem dX1_init_15 : decode cX1_init 15 = .ok (.newarray .int, 2) := by decide +kernel
theorem dX1_init_17 : decode cX1_init 17 = .ok (.putfield 15, 3) := by decide +kernel
theorem dX1_init_20 : decode cX1_init 20 = .ok (.aload_n 0, 1) := by decide +kernel
theorem dX1_init_21 : decode cX1_init 21 = .ok (.bipush 8, 2) := by decide +kernel
theorem dX1_init_23 : decode cX1_init 23 = .ok (.newarray .int, 2) := by decide +kernel
theorem dX1_init_25 : decode cX1_init 25 = .ok (.putfield 18, 3) := by decide +kernel
theorem dX1_init_28 : decode cX1_init 28 = .ok (.aload_n 0, 1) := by decide +kernel
theorem dX1_init_29 : decode cX1_init 29 = .ok (.bipush 8, 2) := by decide +kernel
theorem dX1_init_31 : decode cX1_init 31 = .ok (.newarray .int, 2) := by decide +kernel
theorem dX1_init_33 : decode cX1_init 33 = .ok (.putfield 21, 3) := by decide +kernel
theorem dX1_init_36 : decode cX1_init 36 = .ok (.aload_n 0, 1) := by decide +kernel
theorem dX1_init_37 : decode cX1_init 37 = .ok (.iconst 5, 1) := by decide +kernel
theorem dX1_init_38 : decode cX1_init 38 = .ok (.newarray .int, 2) := by decide +kernel
theorem dX1_init_40 : decode cX1_init 40 = .ok (.putfield 24, 3) := by decide +kernel
theorem dX1_init_43 : decode cX1_init 43 = .ok (.return_, 1) := by decide +kernel
theorem dX1_begin_0 : decode cX1_begin 0 = .ok (.aload_n 0, 1) := by decide +kernel
theorem dX1_begin_1 : decode cX1_begin 1 = .ok (.iload_n 1, 1) := by decide +kernel
theorem dX1_begin_2 : decode cX1_begin 2 = .ok (.putfield 27, 3) := by decide +kernel
theorem dX1_begin_5 : decode cX1_begin 5 = .ok (.aload_n 0, 1) := by decide +kernel
theorem dX1_begin_6 : decode cX1_begin 6 = .ok (.iload_n 2, 1) := by decide +kernel
theorem dX1_begin_7 : decode cX1_begin 7 = .ok (.putfield 31, 3) := by decide +kernel
theorem dX1_begin_10 : decode cX1_begin 10 = .ok (.aload_n 0, 1) := by decide +kernel
theorem dX1_begin_11 : decode cX1_begin 11 = .ok (.iload_n 3, 1) := by decide +kernel
theorem dX1_begin_12 : decode cX1_begin 12 = .ok (.putfield 34, 3) := by decide +kernel
theorem dX1_begin_15 : decode cX1_begin 15 = .ok (.aload_n 0, 1) := by decide +kernel
theorem dX1_begin_16 : decode cX1_begin 16 = .ok (.bipush (-4), 2) := by decide +kernel
theorem dX1_begin_18 : decode cX1_begin 18 = .ok (.putfield 37, 3) := by decide +kernel
theorem dX1_begin_21 : decode cX1_begin 21 = .ok (.aload_n 0, 1) := by decide +kernel
theorem dX1_begin_22 : decode cX1_begin 22 = .ok (.iconst 0, 1) := by decide +kernel
theorem dX1_begin_23 : decode cX1_begin 23 = .ok (.putfield 40, 3) := by decide +kernel
theorem dX1_begin_26 : decode cX1_begin 26 = .ok (.aload_n 0, 1) := by decide +kernel
theorem dX1_begin_27 : decode cX1_begin 27 = .ok (.getfield 24, 3) := by decide +kernel
theorem dX1_begin_30 : decode cX1_begin 30 = .ok (.iconst 0, 1) := by decide +kernel
theorem dX1_begin_31 : decode cX1_begin 31 = .ok (.invokestatic 43, 3) := by decide +kernel
theorem dX1_begin_34 : decode cX1_begin 34 = .ok (.return_, 1) := by decide +kernel
theorem dX1_becomeLike_0 : decode cX1_becomeLike 0 = .ok (.aload_n 0, 1) := by decide +kernel
theorem dX1_becomeLike_1 : decode cX1_becomeLike 1 = .ok (.aload_n 1, 1) := by decide +kernel
theorem dX1_becomeLike_2 : decode cX1_becomeLike 2 = .ok (.getfield 27, 3) := by decide +kernel
theorem dX1_becomeLike_5 : decode cX1_becomeLike 5 = .ok (.aload_n 1, 1) := by decide +kernel
theorem dX1_becomeLike_6 : decode cX1_becomeLike 6 = .ok (.getfield 31, 3) := by decide +kernel
theorem dX1_becomeLike_9 : decode cX1_becomeLike 9 = .ok (.aload_n 1, 1) := by decide +kernel
theorem dX1_becomeLike_10 : decode cX1_becomeLike 10 = .ok (.getfield 34, 3) := by decide +kernel
theorem dX1_becomeLike_13 : decode cX1_becomeLike 13 = .ok (.invokevirtual 49, 3) := by decide +kernel
theorem dX1_becomeLike_16 : decode cX1_becomeLike 16 = .ok (.aload_n 0, 1) := by decide +kernel
theorem dX1_becomeLike_17 : decode cX1_becomeLike 17 = .ok (.aload_n 1, 1) := by decide +kernel
theorem dX1_becomeLike_18 : decode cX1_becomeLike 18 = .ok (.getfield 37, 3) := by decide +kernel
theorem dX1_becomeLike_21 : decode cX1_becomeLike 21 = .ok (.putfield 37, 3) := by decide +kernel
theorem dX1_becomeLike_24 : decode cX1_becomeLike 24 = .ok (.aload_n 1, 1) := by decide +kernel
theorem dX1_becomeLike_25 : decode cX1_becomeLike 25 = .ok (.getfield 24, 3) := by decide +kernel
theorem dX1_becomeLike_28 : decode cX1_becomeLike 28 = .ok (.iconst 0, 1) := by decide +kernel
theorem dX1_becomeLike_29 : decode cX1_becomeLike 29 = .ok (.aload_n 0, 1) := by decide +kernel
theorem dX1_becomeLike_30 : decode cX1_becomeLike 30 = .ok (.getfield 24, 3) := by decide +kernel
theorem dX1_becomeLike_33 : decode cX1_becomeLike 33 = .ok (.iconst 0, 1) := by decide +kernel
theorem dX1_becomeLike_34 : decode cX1_becomeLike 34 = .ok (.iconst 5, 1) := by decide +kernel
theorem dX1_becomeLike_35 : decode cX1_becomeLike 35 = .ok (.invokestatic 53, 3) := by decide +kernel
theorem dX1_becomeLike_38 : decode cX1_becomeLike 38 = .ok (.aload_n 0, 1) := by decide +kernel
theorem dX1_becomeLike_39 : decode cX1_becomeLike 39 = .ok (.aload_n 1, 1) := by decide +kernel
theorem dX1_becomeLike_40 : decode cX1_becomeLike 40 = .ok (.invokevirtual 59, 3) := by decide +kernel
theorem dX1_becomeLike_43 : decode cX1_becomeLike 43 = .ok (.return_, 1) := by decide +kernel
theorem dX1_wearAs_0 : decode cX1_wearAs 0 = .ok (.aload_n 0, 1) := by decide +kernel
theorem dX1_wearAs_1 : decode cX1_wearAs 1 = .ok (.aload_n 1, 1) := by decide +kernel
theorem dX1_wearAs_2 : decode cX1_wearAs 2 = .ok (.getfield 40, 3) := by decide +kernel
theorem dX1_wearAs_5 : decode cX1_wearAs 5 = .ok (.putfield 40, 3) := by decide +kernel
theorem dX1_wearAs_8 : decode cX1_wearAs 8 = .ok (.aload_n 1, 1) := by decide +kernel
theorem dX1_wearAs_9 : decode cX1_wearAs 9 = .ok (.getfield 9, 3) := by decide +kernel
theorem dX1_wearAs_12 : decode cX1_wearAs 12 = .ok (.iconst 0, 1) := by decide +kernel
theorem dX1_wearAs_13 : decode cX1_wearAs 13 = .ok (.aload_n 0, 1) := by decide +kernel
theorem dX1_wearAs_14 : decode cX1_wearAs 14 = .ok (.getfield 9, 3) := by decide +kernel
theorem dX1_wearAs_17 : decode cX1_wearAs 17 = .ok (.iconst 0, 1) := by decide +kernel
theorem dX1_wearAs_18 : decode cX1_wearAs 18 = .ok (.bipush 8, 2) := by decide +kernel
theorem dX1_wearAs_20 : decode cX1_wearAs 20 = .ok (.invokestatic 53, 3) := by decide +kernel
theorem dX1_wearAs_23 : decode cX1_wearAs 23 = .ok (.aload_n 1, 1) := by decide +kernel
theorem dX1_wearAs_24 : decode cX1_wearAs 24 = .ok (.getfield 15, 3) := by decide +kernel
theorem dX1_wearAs_27 : decode cX1_wearAs 27 = .ok (.iconst 0, 1) := by decide +kernel
theorem dX1_wearAs_28 : decode cX1_wearAs 28 = .ok (.aload_n 0, 1) := by decide +kernel
theorem dX1_wearAs_29 : decode cX1_wearAs 29 = .ok (.getfield 15, 3) := by decide +kernel
theorem dX1_wearAs_32 : decode cX1_wearAs 32 = .ok (.iconst 0, 1) := by decide +kernel
theorem dX1_wearAs_33 : decode cX1_wearAs 33 = .ok (.bipush 8, 2) := by decide +kernel
theorem dX1_wearAs_35 : decode cX1_wearAs 35 = .ok (.invokestatic 53, 3) := by decide +kernel
theorem dX1_wearAs_38 : decode cX1_wearAs 38 = .ok (.aload_n 1, 1) := by decide +kernel
theorem dX1_wearAs_39 : decode cX1_wearAs 39 = .ok (.getfield 18, 3) := by decide +kernel
theorem dX1_wearAs_42 : decode cX1_wearAs 42 = .ok (.iconst 0, 1) := by decide +kernel
theorem dX1_wearAs_43 : decode cX1_wearAs 43 = .ok (.aload_n 0, 1) := by decide +kernel
theorem dX1_wearAs_44 : decode cX1_wearAs 44 = .ok (.getfield 18, 3) := by decide +kernel
theorem dX1_wearAs_47 : decode cX1_wearAs 47 = .ok (.iconst 0, 1) := by decide +kernel
theorem dX1_wearAs_48 : decode cX1_wearAs 48 = .ok (.bipush 8, 2) := by decide +kernel
theorem dX1_wearAs_50 : decode cX1_wearAs 50 = .ok (.invokestatic 53, 3) := by decide +kernel
theorem dX1_wearAs_53 : decode cX1_wearAs 53 = .ok (.aload_n 1, 1) := by decide +kernel
theorem dX1_wearAs_54 : decode cX1_wearAs 54 = .ok (.getfield 21, 3) := by decide +kernel
theorem dX1_wearAs_57 : decode cX1_wearAs 57 = .ok (.iconst 0, 1) := by decide +kernel
theorem dX1_wearAs_58 : decode cX1_wearAs 58 = .ok (.aload_n 0, 1) := by decide +kernel
theorem dX1_wearAs_59 : decode cX1_wearAs 59 = .ok (.getfield 21, 3) := by decide +kernel
theorem dX1_wearAs_62 : decode cX1_wearAs 62 = .ok (.iconst 0, 1) := by decide +kernel
theorem dX1_wearAs_63 : decode cX1_wearAs 63 = .ok (.bipush 8, 2) := by decide +kernel
theorem dX1_wearAs_65 : decode cX1_wearAs 65 = .ok (.invokestatic 53, 3) := by decide +kernel
theorem dX1_wearAs_68 : decode cX1_wearAs 68 = .ok (.return_, 1) := by decide +kernel
theorem dX1_wornSet_0 : decode cX1_wornSet 0 = .ok (.iconst 1, 1) := by decide +kernel
theorem dX1_wornSet_1 : decode cX1_wornSet 1 = .ok (.aload_n 0, 1) := by decide +kernel
theorem dX1_wornSet_2 : decode cX1_wornSet 2 = .ok (.getfield 40, 3) := by decide +kernel
theorem dX1_wornSet_5 : decode cX1_wornSet 5 = .ok (.ishl, 1) := by decide +kernel
theorem dX1_wornSet_6 : decode cX1_wornSet 6 = .ok (.iconst 1, 1) := by decide +kernel
theorem dX1_wornSet_7 : decode cX1_wornSet 7 = .ok (.isub, 1) := by decide +kernel
theorem dX1_wornSet_8 : decode cX1_wornSet 8 = .ok (.ireturn, 1) := by decide +kernel
theorem dX1_isBetween_0 : decode cX1_isBetween 0 = .ok (.iload_n 1, 1) := by decide +kernel
theorem dX1_isBetween_1 : decode cX1_isBetween 1 = .ok (.ifCond .le 17, 3) := by decide +kernel
theorem dX1_isBetween_4 : decode cX1_isBetween 4 = .ok (.iload_n 1, 1) := by decide +kernel
theorem dX1_isBetween_5 : decode cX1_isBetween 5 = .ok (.aload_n 0, 1) := by decide +kernel
theorem dX1_isBetween_6 : decode cX1_isBetween 6 = .ok (.getfield 40, 3) := by decide +kernel
theorem dX1_isBetween_9 : decode cX1_isBetween 9 = .ok (.iconst 1, 1) := by decide +kernel
theorem dX1_isBetween_10 : decode cX1_isBetween 10 = .ok (.isub, 1) := by decide +kernel
theorem dX1_isBetween_11 : decode cX1_isBetween 11 = .ok (.if_icmp .ge 7, 3) := by decide +kernel
theorem dX1_isBetween_14 : decode cX1_isBetween 14 = .ok (.iconst 1, 1) := by decide +kernel
theorem dX1_isBetween_15 : decode cX1_isBetween 15 = .ok (.goto 4, 3) := by decide +kernel
theorem dX1_isBetween_18 : decode cX1_isBetween 18 = .ok (.iconst 0, 1) := by decide +kernel
theorem dX1_isBetween_19 : decode cX1_isBetween 19 = .ok (.ireturn, 1) := by decide +kernel
theorem dX1_thickTogether_0 : decode cX1_thickTogether 0 = .ok (.iconst 0, 1) := by decide +kernel
theorem dX1_thickTogether_1 : decode cX1_thickTogether 1 = .ok (.istore_n 1, 1) := by decide +kernel
theorem dX1_thickTogether_2 : decode cX1_thickTogether 2 = .ok (.iconst 0, 1) := by decide +kernel
theorem dX1_thickTogether_3 : decode cX1_thickTogether 3 = .ok (.istore_n 2, 1) := by decide +kernel
theorem dX1_thickTogether_4 : decode cX1_thickTogether 4 = .ok (.iload_n 2, 1) := by decide +kernel
theorem dX1_thickTogether_5 : decode cX1_thickTogether 5 = .ok (.aload_n 0, 1) := by decide +kernel
theorem dX1_thickTogether_6 : decode cX1_thickTogether 6 = .ok (.getfield 40, 3) := by decide +kernel
theorem dX1_thickTogether_9 : decode cX1_thickTogether 9 = .ok (.if_icmp .ge 18, 3) := by decide +kernel
theorem dX1_thickTogether_12 : decode cX1_thickTogether 12 = .ok (.iload_n 1, 1) := by decide +kernel
theorem dX1_thickTogether_13 : decode cX1_thickTogether 13 = .ok (.aload_n 0, 1) := by decide +kernel
theorem dX1_thickTogether_14 : decode cX1_thickTogether 14 = .ok (.getfield 21, 3) := by decide +kernel
theorem dX1_thickTogether_17 : decode cX1_thickTogether 17 = .ok (.iload_n 2, 1) := by decide +kernel
theorem dX1_thickTogether_18 : decode cX1_thickTogether 18 = .ok (.iaload, 1) := by decide +kernel
theorem dX1_thickTogether_19 : decode cX1_thickTogether 19 = .ok (.iadd, 1) := by decide +kernel
theorem dX1_thickTogether_20 : decode cX1_thickTogether 20 = .ok (.istore_n 1, 1) := by decide +kernel
theorem dX1_thickTogether_21 : decode cX1_thickTogether 21 = .ok (.iinc 2 1, 3) := by decide +kernel
theorem dX1_thickTogether_24 : decode cX1_thickTogether 24 = .ok (.goto (-20), 3) := by decide +kernel
theorem dX1_thickTogether_27 : decode cX1_thickTogether 27 = .ok (.iload_n 1, 1) := by decide +kernel
theorem dX1_thickTogether_28 : decode cX1_thickTogether 28 = .ok (.ireturn, 1) := by decide +kernel
theorem dX1_amountsTogether_0 : decode cX1_amountsTogether 0 = .ok (.iconst 0, 1) := by decide +kernel
theorem dX1_amountsTogether_1 : decode cX1_amountsTogether 1 = .ok (.istore_n 1, 1) := by decide +kernel
theorem dX1_amountsTogether_2 : decode cX1_amountsTogether 2 = .ok (.iconst 0, 1) := by decide +kernel
theorem dX1_amountsTogether_3 : decode cX1_amountsTogether 3 = .ok (.istore_n 2, 1) := by decide +kernel
theorem dX1_amountsTogether_4 : decode cX1_amountsTogether 4 = .ok (.iload_n 2, 1) := by decide +kernel
theorem dX1_amountsTogether_5 : decode cX1_amountsTogether 5 = .ok (.aload_n 0, 1) := by decide +kernel
theorem dX1_amountsTogether_6 : decode cX1_amountsTogether 6 = .ok (.getfield 40, 3) := by decide +kernel
theorem dX1_amountsTogether_9 : decode cX1_amountsTogether 9 = .ok (.if_icmp .ge 18, 3) := by decide +kernel
theorem dX1_amountsTogether_12 : decode cX1_amountsTogether 12 = .ok (.iload_n 1, 1) := by decide +kernel
theorem dX1_amountsTogether_13 : decode cX1_amountsTogether 13 = .ok (.aload_n 0, 1) := by decide +kernel
theorem dX1_amountsTogether_14 : decode cX1_amountsTogether 14 = .ok (.getfield 15, 3) := by decide +kernel
theorem dX1_amountsTogether_17 : decode cX1_amountsTogether 17 = .ok (.iload_n 2, 1) := by decide +kernel
theorem dX1_amountsTogether_18 : decode cX1_amountsTogether 18 = .ok (.iaload, 1) := by decide +kernel
theorem dX1_amountsTogether_19 : decode cX1_amountsTogether 19 = .ok (.iadd, 1) := by decide +kernel
theorem dX1_amountsTogether_20 : decode cX1_amountsTogether 20 = .ok (.istore_n 1, 1) := by decide +kernel
theorem dX1_amountsTogether_21 : decode cX1_amountsTogether 21 = .ok (.iinc 2 1, 3) := by decide +kernel
theorem dX1_amountsTogether_24 : decode cX1_amountsTogether 24 = .ok (.goto (-20), 3) := by decide +kernel
theorem dX1_amountsTogether_27 : decode cX1_amountsTogether 27 = .ok (.iload_n 1, 1) := by decide +kernel
theorem dX1_amountsTogether_28 : decode cX1_amountsTogether 28 = .ok (.ireturn, 1) := by decide +kernel
theorem dX1_owedTo_0 : decode cX1_owedTo 0 = .ok (.iconst 0, 1) := by decide +kernel
theorem dX1_owedTo_1 : decode cX1_owedTo 1 = .ok (.istore_n 2, 1) := by decide +kernel
theorem dX1_owedTo_2 : decode cX1_owedTo 2 = .ok (.iconst 0, 1) := by decide +kernel
theorem dX1_owedTo_3 : decode cX1_owedTo 3 = .ok (.istore_n 3, 1) := by decide +kernel
theorem dX1_owedTo_4 : decode cX1_owedTo 4 = .ok (.iload_n 3, 1) := by decide +kernel
theorem dX1_owedTo_5 : decode cX1_owedTo 5 = .ok (.aload_n 0, 1) := by decide +kernel
theorem dX1_owedTo_6 : decode cX1_owedTo 6 = .ok (.getfield 40, 3) := by decide +kernel
theorem dX1_owedTo_9 : decode cX1_owedTo 9 = .ok (.if_icmp .ge 28, 3) := by decide +kernel
theorem dX1_owedTo_12 : decode cX1_owedTo 12 = .ok (.aload_n 0, 1) := by decide +kernel
theorem dX1_owedTo_13 : decode cX1_owedTo 13 = .ok (.getfield 9, 3) := by decide +kernel
theorem dX1_owedTo_16 : decode cX1_owedTo 16 = .ok (.iload_n 3, 1) := by decide +kernel
theorem dX1_owedTo_17 : decode cX1_owedTo 17 = .ok (.iaload, 1) := by decide +kernel
theorem dX1_owedTo_18 : decode cX1_owedTo 18 = .ok (.iload_n 1, 1) := by decide +kernel
theorem dX1_owedTo_19 : decode cX1_owedTo 19 = .ok (.if_icmp .ne 12, 3) := by decide +kernel
theorem dX1_owedTo_22 : decode cX1_owedTo 22 = .ok (.iload_n 2, 1) := by decide +kernel
theorem dX1_owedTo_23 : decode cX1_owedTo 23 = .ok (.aload_n 0, 1) := by decide +kernel
theorem dX1_owedTo_24 : decode cX1_owedTo 24 = .ok (.getfield 15, 3) := by decide +kernel
theorem dX1_owedTo_27 : decode cX1_owedTo 27 = .ok (.iload_n 3, 1) := by decide +kernel
theorem dX1_owedTo_28 : decode cX1_owedTo 28 = .ok (.iaload, 1) := by decide +kernel
theorem dX1_owedTo_29 : decode cX1_owedTo 29 = .ok (.iadd, 1) := by decide +kernel
theorem dX1_owedTo_30 : decode cX1_owedTo 30 = .ok (.istore_n 2, 1) := by decide +kernel
theorem dX1_owedTo_31 : decode cX1_owedTo 31 = .ok (.iinc 3 1, 3) := by decide +kernel
theorem dX1_owedTo_34 : decode cX1_owedTo 34 = .ok (.goto (-30), 3) := by decide +kernel
theorem dX1_owedTo_37 : decode cX1_owedTo 37 = .ok (.iload_n 2, 1) := by decide +kernel
theorem dX1_owedTo_38 : decode cX1_owedTo 38 = .ok (.ireturn, 1) := by decide +kernel
theorem dX1_putOn_0 : decode cX1_putOn 0 = .ok (.aload_n 0, 1) := by decide +kernel
theorem dX1_putOn_1 : decode cX1_putOn 1 = .ok (.getfield 40, 3) := by decide +kernel
theorem dX1_putOn_4 : decode cX1_putOn 4 = .ok (.bipush 8, 2) := by decide +kernel
theorem dX1_putOn_6 : decode cX1_putOn 6 = .ok (.if_icmp .ge 54, 3) := by decide +kernel
theorem dX1_putOn_9 : decode cX1_putOn 9 = .ok (.aload_n 0, 1) := by decide +kernel
theorem dX1_putOn_10 : decode cX1_putOn 10 = .ok (.getfield 9, 3) := by decide +kernel
theorem dX1_putOn_13 : decode cX1_putOn 13 = .ok (.aload_n 0, 1) := by decide +kernel
theorem dX1_putOn_14 : decode cX1_putOn 14 = .ok (.getfield 40, 3) := by decide +kernel
theorem dX1_putOn_17 : decode cX1_putOn 17 = .ok (.iload_n 1, 1) := by decide +kernel
theorem dX1_putOn_18 : decode cX1_putOn 18 = .ok (.iastore, 1) := by decide +kernel
theorem dX1_putOn_19 : decode cX1_putOn 19 = .ok (.aload_n 0, 1) := by decide +kernel
theorem dX1_putOn_20 : decode cX1_putOn 20 = .ok (.getfield 15, 3) := by decide +kernel
theorem dX1_putOn_23 : decode cX1_putOn 23 = .ok (.aload_n 0, 1) := by decide +kernel
theorem dX1_putOn_24 : decode cX1_putOn 24 = .ok (.getfield 40, 3) := by decide +kernel
theorem dX1_putOn_27 : decode cX1_putOn 27 = .ok (.iload_n 2, 1) := by decide +kernel
theorem dX1_putOn_28 : decode cX1_putOn 28 = .ok (.iastore, 1) := by decide +kernel
theorem dX1_putOn_29 : decode cX1_putOn 29 = .ok (.aload_n 0, 1) := by decide +kernel
theorem dX1_putOn_30 : decode cX1_putOn 30 = .ok (.getfield 18, 3) := by decide +kernel
theorem dX1_putOn_33 : decode cX1_putOn 33 = .ok (.aload_n 0, 1) := by decide +kernel
theorem dX1_putOn_34 : decode cX1_putOn 34 = .ok (.getfield 40, 3) := by decide +kernel
theorem dX1_putOn_37 : decode cX1_putOn 37 = .ok (.iload_n 3, 1) := by decide +kernel
theorem dX1_putOn_38 : decode cX1_putOn 38 = .ok (.iastore, 1) := by decide +kernel
theorem dX1_putOn_39 : decode cX1_putOn 39 = .ok (.aload_n 0, 1) := by decide +kernel
theorem dX1_putOn_40 : decode cX1_putOn 40 = .ok (.getfield 21, 3) := by decide +kernel
theorem dX1_putOn_43 : decode cX1_putOn 43 = .ok (.aload_n 0, 1) := by decide +kernel
theorem dX1_putOn_44 : decode cX1_putOn 44 = .ok (.getfield 40, 3) := by decide +kernel
theorem dX1_putOn_47 : decode cX1_putOn 47 = .ok (.iload 4, 2) := by decide +kernel
theorem dX1_putOn_49 : decode cX1_putOn 49 = .ok (.iastore, 1) := by decide +kernel
theorem dX1_putOn_50 : decode cX1_putOn 50 = .ok (.aload_n 0, 1) := by decide +kernel
theorem dX1_putOn_51 : decode cX1_putOn 51 = .ok (.dup, 1) := by decide +kernel
theorem dX1_putOn_52 : decode cX1_putOn 52 = .ok (.getfield 40, 3) := by decide +kernel
theorem dX1_putOn_55 : decode cX1_putOn 55 = .ok (.iconst 1, 1) := by decide +kernel
theorem dX1_putOn_56 : decode cX1_putOn 56 = .ok (.iadd, 1) := by decide +kernel
theorem dX1_putOn_57 : decode cX1_putOn 57 = .ok (.putfield 40, 3) := by decide +kernel
theorem dX1_putOn_60 : decode cX1_putOn 60 = .ok (.return_, 1) := by decide +kernel
theorem dX1_takeOff_0 : decode cX1_takeOff 0 = .ok (.iload_n 1, 1) := by decide +kernel
theorem dX1_takeOff_1 : decode cX1_takeOff 1 = .ok (.istore_n 2, 1) := by decide +kernel
theorem dX1_takeOff_2 : decode cX1_takeOff 2 = .ok (.iload_n 2, 1) := by decide +kernel
theorem dX1_takeOff_3 : decode cX1_takeOff 3 = .ok (.aload_n 0, 1) := by decide +kernel
theorem dX1_takeOff_4 : decode cX1_takeOff 4 = .ok (.getfield 40, 3) := by decide +kernel
theorem dX1_takeOff_7 : decode cX1_takeOff 7 = .ok (.iconst 1, 1) := by decide +kernel
theorem dX1_takeOff_8 : decode cX1_takeOff 8 = .ok (.isub, 1) := by decide +kernel
theorem dX1_takeOff_9 : decode cX1_takeOff 9 = .ok (.if_icmp .ge 65, 3) := by decide +kernel
theorem dX1_takeOff_12 : decode cX1_takeOff 12 = .ok (.aload_n 0, 1) := by decide +kernel
theorem dX1_takeOff_13 : decode cX1_takeOff 13 = .ok (.getfield 9, 3) := by decide +kernel
theorem dX1_takeOff_16 : decode cX1_takeOff 16 = .ok (.iload_n 2, 1) := by decide +kernel
theorem dX1_takeOff_17 : decode cX1_takeOff 17 = .ok (.aload_n 0, 1) := by decide +kernel
theorem dX1_takeOff_18 : decode cX1_takeOff 18 = .ok (.getfield 9, 3) := by decide +kernel
theorem dX1_takeOff_21 : decode cX1_takeOff 21 = .ok (.iload_n 2, 1) := by decide +kernel
theorem dX1_takeOff_22 : decode cX1_takeOff 22 = .ok (.iconst 1, 1) := by decide +kernel
theorem dX1_takeOff_23 : decode cX1_takeOff 23 = .ok (.iadd, 1) := by decide +kernel
theorem dX1_takeOff_24 : decode cX1_takeOff 24 = .ok (.iaload, 1) := by decide +kernel
theorem dX1_takeOff_25 : decode cX1_takeOff 25 = .ok (.iastore, 1) := by decide +kernel
theorem dX1_takeOff_26 : decode cX1_takeOff 26 = .ok (.aload_n 0, 1) := by decide +kernel
theorem dX1_takeOff_27 : decode cX1_takeOff 27 = .ok (.getfield 15, 3) := by decide +kernel
theorem dX1_takeOff_30 : decode cX1_takeOff 30 = .ok (.iload_n 2, 1) := by decide +kernel
theorem dX1_takeOff_31 : decode cX1_takeOff 31 = .ok (.aload_n 0, 1) := by decide +kernel
theorem dX1_takeOff_32 : decode cX1_takeOff 32 = .ok (.getfield 15, 3) := by decide +kernel
theorem dX1_takeOff_35 : decode cX1_takeOff 35 = .ok (.iload_n 2, 1) := by decide +kernel
theorem dX1_takeOff_36 : decode cX1_takeOff 36 = .ok (.iconst 1, 1) := by decide +kernel
theorem dX1_takeOff_37 : decode cX1_takeOff 37 = .ok (.iadd, 1) := by decide +kernel
theorem dX1_takeOff_38 : decode cX1_takeOff 38 = .ok (.iaload, 1) := by decide +kernel
theorem dX1_takeOff_39 : decode cX1_takeOff 39 = .ok (.iastore, 1) := by decide +kernel
theorem dX1_takeOff_40 : decode cX1_takeOff 40 = .ok (.aload_n 0, 1) := by decide +kernel
theorem dX1_takeOff_41 : decode cX1_takeOff 41 = .ok (.getfield 18, 3) := by decide +kernel
theorem dX1_takeOff_44 : decode cX1_takeOff 44 = .ok (.iload_n 2, 1) := by decide +kernel
theorem dX1_takeOff_45 : decode cX1_takeOff 45 = .ok (.aload_n 0, 1) := by decide +kernel
theorem dX1_takeOff_46 : decode cX1_takeOff 46 = .ok (.getfield 18, 3) := by decide +kernel
theorem dX1_takeOff_49 : decode cX1_takeOff 49 = .ok (.iload_n 2, 1) := by decide +kernel
theorem dX1_takeOff_50 : decode cX1_takeOff 50 = .ok (.iconst 1, 1) := by decide +kernel
theorem dX1_takeOff_51 : decode cX1_takeOff 51 = .ok (.iadd, 1) := by decide +kernel
theorem dX1_takeOff_52 : decode cX1_takeOff 52 = .ok (.iaload, 1) := by decide +kernel
theorem dX1_takeOff_53 : decode cX1_takeOff 53 = .ok (.iastore, 1) := by decide +kernel
theorem dX1_takeOff_54 : decode cX1_takeOff 54 = .ok (.aload_n 0, 1) := by decide +kernel
theorem dX1_takeOff_55 : decode cX1_takeOff 55 = .ok (.getfield 21, 3) := by decide +kernel
theorem dX1_takeOff_58 : decode cX1_takeOff 58 = .ok (.iload_n 2, 1) := by decide +kernel
theorem dX1_takeOff_59 : decode cX1_takeOff 59 = .ok (.aload_n 0, 1) := by decide +kernel
theorem dX1_takeOff_60 : decode cX1_takeOff 60 = .ok (.getfield 21, 3) := by decide +kernel
theorem dX1_takeOff_63 : decode cX1_takeOff 63 = .ok (.iload_n 2, 1) := by decide +kernel
theorem dX1_takeOff_64 : decode cX1_takeOff 64 = .ok (.iconst 1, 1) := by decide +kernel
theorem dX1_takeOff_65 : decode cX1_takeOff 65 = .ok (.iadd, 1) := by decide +kernel
theorem dX1_takeOff_66 : decode cX1_takeOff 66 = .ok (.iaload, 1) := by decide +kernel
theorem dX1_takeOff_67 : decode cX1_takeOff 67 = .ok (.iastore, 1) := by decide +kernel
theorem dX1_takeOff_68 : decode cX1_takeOff 68 = .ok (.iinc 2 1, 3) := by decide +kernel
theorem dX1_takeOff_71 : decode cX1_takeOff 71 = .ok (.goto (-69), 3) := by decide +kernel
theorem dX1_takeOff_74 : decode cX1_takeOff 74 = .ok (.aload_n 0, 1) := by decide +kernel
theorem dX1_takeOff_75 : decode cX1_takeOff 75 = .ok (.dup, 1) := by decide +kernel
theorem dX1_takeOff_76 : decode cX1_takeOff 76 = .ok (.getfield 40, 3) := by decide +kernel
theorem dX1_takeOff_79 : decode cX1_takeOff 79 = .ok (.iconst 1, 1) := by decide +kernel
theorem dX1_takeOff_80 : decode cX1_takeOff 80 = .ok (.isub, 1) := by decide +kernel
theorem dX1_takeOff_81 : decode cX1_takeOff 81 = .ok (.putfield 40, 3) := by decide +kernel
theorem dX1_takeOff_84 : decode cX1_takeOff 84 = .ok (.return_, 1) := by decide +kernel
theorem dX1_payOff_0 : decode cX1_payOff 0 = .ok (.aload_n 0, 1) := by decide +kernel
theorem dX1_payOff_1 : decode cX1_payOff 1 = .ok (.dup, 1) := by decide +kernel
theorem dX1_payOff_2 : decode cX1_payOff 2 = .ok (.getfield 27, 3) := by decide +kernel
theorem dX1_payOff_5 : decode cX1_payOff 5 = .ok (.aload_n 0, 1) := by decide +kernel
theorem dX1_payOff_6 : decode cX1_payOff 6 = .ok (.getfield 15, 3) := by decide +kernel
theorem dX1_payOff_9 : decode cX1_payOff 9 = .ok (.iload_n 1, 1) := by decide +kernel
theorem dX1_payOff_10 : decode cX1_payOff 10 = .ok (.iaload, 1) := by decide +kernel
theorem dX1_payOff_11 : decode cX1_payOff 11 = .ok (.isub, 1) := by decide +kernel
theorem dX1_payOff_12 : decode cX1_payOff 12 = .ok (.putfield 27, 3) := by decide +kernel
theorem dX1_payOff_15 : decode cX1_payOff 15 = .ok (.aload_n 0, 1) := by decide +kernel
theorem dX1_payOff_16 : decode cX1_payOff 16 = .ok (.iload_n 1, 1) := by decide +kernel
theorem dX1_payOff_17 : decode cX1_payOff 17 = .ok (.invokevirtual 63, 3) := by decide +kernel
theorem dX1_payOff_20 : decode cX1_payOff 20 = .ok (.return_, 1) := by decide +kernel
theorem dX1_swapOutermost_0 : decode cX1_swapOutermost 0 = .ok (.aload_n 0, 1) := by decide +kernel
theorem dX1_swapOutermost_1 : decode cX1_swapOutermost 1 = .ok (.getfield 9, 3) := by decide +kernel
theorem dX1_swapOutermost_4 : decode cX1_swapOutermost 4 = .ok (.aload_n 0, 1) := by decide +kernel
theorem dX1_swapOutermost_5 : decode cX1_swapOutermost 5 = .ok (.getfield 40, 3) := by decide +kernel
theorem dX1_swapOutermost_8 : decode cX1_swapOutermost 8 = .ok (.iconst 1, 1) := by decide +kernel
theorem dX1_swapOutermost_9 : decode cX1_swapOutermost 9 = .ok (.isub, 1) := by decide +kernel
theorem dX1_swapOutermost_10 : decode cX1_swapOutermost 10 = .ok (.aload_n 1, 1) := by decide +kernel
theorem dX1_swapOutermost_11 : decode cX1_swapOutermost 11 = .ok (.getfield 9, 3) := by decide +kernel
theorem dX1_swapOutermost_14 : decode cX1_swapOutermost 14 = .ok (.aload_n 1, 1) := by decide +kernel
theorem dX1_swapOutermost_15 : decode cX1_swapOutermost 15 = .ok (.getfield 40, 3) := by decide +kernel
theorem dX1_swapOutermost_18 : decode cX1_swapOutermost 18 = .ok (.iconst 1, 1) := by decide +kernel
theorem dX1_swapOutermost_19 : decode cX1_swapOutermost 19 = .ok (.isub, 1) := by decide +kernel
theorem dX1_swapOutermost_20 : decode cX1_swapOutermost 20 = .ok (.invokestatic 67, 3) := by decide +kernel
theorem dX1_swapOutermost_23 : decode cX1_swapOutermost 23 = .ok (.aload_n 0, 1) := by decide +kernel
theorem dX1_swapOutermost_24 : decode cX1_swapOutermost 24 = .ok (.getfield 15, 3) := by decide +kernel
theorem dX1_swapOutermost_27 : decode cX1_swapOutermost 27 = .ok (.aload_n 0, 1) := by decide +kernel
theorem dX1_swapOutermost_28 : decode cX1_swapOutermost 28 = .ok (.getfield 40, 3) := by decide +kernel
theorem dX1_swapOutermost_31 : decode cX1_swapOutermost 31 = .ok (.iconst 1, 1) := by decide +kernel
theorem dX1_swapOutermost_32 : decode cX1_swapOutermost 32 = .ok (.isub, 1) := by decide +kernel
theorem dX1_swapOutermost_33 : decode cX1_swapOutermost 33 = .ok (.aload_n 1, 1) := by decide +kernel
theorem dX1_swapOutermost_34 : decode cX1_swapOutermost 34 = .ok (.getfield 15, 3) := by decide +kernel
theorem dX1_swapOutermost_37 : decode cX1_swapOutermost 37 = .ok (.aload_n 1, 1) := by decide +kernel
theorem dX1_swapOutermost_38 : decode cX1_swapOutermost 38 = .ok (.getfield 40, 3) := by decide +kernel
theorem dX1_swapOutermost_41 : decode cX1_swapOutermost 41 = .ok (.iconst 1, 1) := by decide +kernel
theorem dX1_swapOutermost_42 : decode cX1_swapOutermost 42 = .ok (.isub, 1) := by decide +kernel
theorem dX1_swapOutermost_43 : decode cX1_swapOutermost 43 = .ok (.invokestatic 67, 3) := by decide +kernel
theorem dX1_swapOutermost_46 : decode cX1_swapOutermost 46 = .ok (.aload_n 0, 1) := by decide +kernel
theorem dX1_swapOutermost_47 : decode cX1_swapOutermost 47 = .ok (.getfield 18, 3) := by decide +kernel
theorem dX1_swapOutermost_50 : decode cX1_swapOutermost 50 = .ok (.aload_n 0, 1) := by decide +kernel
theorem dX1_swapOutermost_51 : decode cX1_swapOutermost 51 = .ok (.getfield 40, 3) := by decide +kernel
theorem dX1_swapOutermost_54 : decode cX1_swapOutermost 54 = .ok (.iconst 1, 1) := by decide +kernel
theorem dX1_swapOutermost_55 : decode cX1_swapOutermost 55 = .ok (.isub, 1) := by decide +kernel
theorem dX1_swapOutermost_56 : decode cX1_swapOutermost 56 = .ok (.aload_n 1, 1) := by decide +kernel
theorem dX1_swapOutermost_57 : decode cX1_swapOutermost 57 = .ok (.getfield 18, 3) := by decide +kernel
theorem dX1_swapOutermost_60 : decode cX1_swapOutermost 60 = .ok (.aload_n 1, 1) := by decide +kernel
theorem dX1_swapOutermost_61 : decode cX1_swapOutermost 61 = .ok (.getfield 40, 3) := by decide +kernel
theorem dX1_swapOutermost_64 : decode cX1_swapOutermost 64 = .ok (.iconst 1, 1) := by decide +kernel
theorem dX1_swapOutermost_65 : decode cX1_swapOutermost 65 = .ok (.isub, 1) := by decide +kernel
theorem dX1_swapOutermost_66 : decode cX1_swapOutermost 66 = .ok (.invokestatic 67, 3) := by decide +kernel
theorem dX1_swapOutermost_69 : decode cX1_swapOutermost 69 = .ok (.aload_n 0, 1) := by decide +kernel
theorem dX1_swapOutermost_70 : decode cX1_swapOutermost 70 = .ok (.getfield 21, 3) := by decide +kernel
theorem dX1_swapOutermost_73 : decode cX1_swapOutermost 73 = .ok (.aload_n 0, 1) := by decide +kernel
theorem dX1_swapOutermost_74 : decode cX1_swapOutermost 74 = .ok (.getfield 40, 3) := by decide +kernel
theorem dX1_swapOutermost_77 : decode cX1_swapOutermost 77 = .ok (.iconst 1, 1) := by decide +kernel
theorem dX1_swapOutermost_78 : decode cX1_swapOutermost 78 = .ok (.isub, 1) := by decide +kernel
theorem dX1_swapOutermost_79 : decode cX1_swapOutermost 79 = .ok (.aload_n 1, 1) := by decide +kernel
theorem dX1_swapOutermost_80 : decode cX1_swapOutermost 80 = .ok (.getfield 21, 3) := by decide +kernel
theorem dX1_swapOutermost_83 : decode cX1_swapOutermost 83 = .ok (.aload_n 1, 1) := by decide +kernel
theorem dX1_swapOutermost_84 : decode cX1_swapOutermost 84 = .ok (.getfield 40, 3) := by decide +kernel
theorem dX1_swapOutermost_87 : decode cX1_swapOutermost 87 = .ok (.iconst 1, 1) := by decide +kernel
theorem dX1_swapOutermost_88 : decode cX1_swapOutermost 88 = .ok (.isub, 1) := by decide +kernel
theorem dX1_swapOutermost_89 : decode cX1_swapOutermost 89 = .ok (.invokestatic 67, 3) := by decide +kernel
theorem dX1_swapOutermost_92 : decode cX1_swapOutermost 92 = .ok (.return_, 1) := by decide +kernel
theorem dX1_swapItems_0 : decode cX1_swapItems 0 = .ok (.iload_n 1, 1) := by decide +kernel
theorem dX1_swapItems_1 : decode cX1_swapItems 1 = .ok (.ifCond .lt 23, 3) := by decide +kernel
theorem dX1_swapItems_4 : decode cX1_swapItems 4 = .ok (.iload_n 3, 1) := by decide +kernel
theorem dX1_swapItems_5 : decode cX1_swapItems 5 = .ok (.ifCond .lt 19, 3) := by decide +kernel
theorem dX1_swapItems_8 : decode cX1_swapItems 8 = .ok (.aload_n 0, 1) := by decide +kernel
theorem dX1_swapItems_9 : decode cX1_swapItems 9 = .ok (.iload_n 1, 1) := by decide +kernel
theorem dX1_swapItems_10 : decode cX1_swapItems 10 = .ok (.iaload, 1) := by decide +kernel
theorem dX1_swapItems_11 : decode cX1_swapItems 11 = .ok (.istore 4, 2) := by decide +kernel
theorem dX1_swapItems_13 : decode cX1_swapItems 13 = .ok (.aload_n 0, 1) := by decide +kernel
theorem dX1_swapItems_14 : decode cX1_swapItems 14 = .ok (.iload_n 1, 1) := by decide +kernel
theorem dX1_swapItems_15 : decode cX1_swapItems 15 = .ok (.aload_n 2, 1) := by decide +kernel
theorem dX1_swapItems_16 : decode cX1_swapItems 16 = .ok (.iload_n 3, 1) := by decide +kernel
theorem dX1_swapItems_17 : decode cX1_swapItems 17 = .ok (.iaload, 1) := by decide +kernel
theorem dX1_swapItems_18 : decode cX1_swapItems 18 = .ok (.iastore, 1) := by decide +kernel
theorem dX1_swapItems_19 : decode cX1_swapItems 19 = .ok (.aload_n 2, 1) := by decide +kernel
theorem dX1_swapItems_20 : decode cX1_swapItems 20 = .ok (.iload_n 3, 1) := by decide +kernel
theorem dX1_swapItems_21 : decode cX1_swapItems 21 = .ok (.iload 4, 2) := by decide +kernel
theorem dX1_swapItems_23 : decode cX1_swapItems 23 = .ok (.iastore, 1) := by decide +kernel
theorem dX1_swapItems_24 : decode cX1_swapItems 24 = .ok (.return_, 1) := by decide +kernel
theorem dX1_passNight_0 : decode cX1_passNight 0 = .ok (.iconst 0, 1) := by decide +kernel
theorem dX1_passNight_1 : decode cX1_passNight 1 = .ok (.istore_n 1, 1) := by decide +kernel
theorem dX1_passNight_2 : decode cX1_passNight 2 = .ok (.iconst 0, 1) := by decide +kernel
theorem dX1_passNight_3 : decode cX1_passNight 3 = .ok (.istore_n 2, 1) := by decide +kernel
theorem dX1_passNight_4 : decode cX1_passNight 4 = .ok (.iload_n 2, 1) := by decide +kernel
theorem dX1_passNight_5 : decode cX1_passNight 5 = .ok (.aload_n 0, 1) := by decide +kernel
theorem dX1_passNight_6 : decode cX1_passNight 6 = .ok (.getfield 40, 3) := by decide +kernel
theorem dX1_passNight_9 : decode cX1_passNight 9 = .ok (.if_icmp .ge 44, 3) := by decide +kernel
theorem dX1_passNight_12 : decode cX1_passNight 12 = .ok (.aload_n 0, 1) := by decide +kernel
theorem dX1_passNight_13 : decode cX1_passNight 13 = .ok (.getfield 15, 3) := by decide +kernel
theorem dX1_passNight_16 : decode cX1_passNight 16 = .ok (.iload_n 2, 1) := by decide +kernel
theorem dX1_passNight_17 : decode cX1_passNight 17 = .ok (.aload_n 0, 1) := by decide +kernel
theorem dX1_passNight_18 : decode cX1_passNight 18 = .ok (.getfield 15, 3) := by decide +kernel
theorem dX1_passNight_21 : decode cX1_passNight 21 = .ok (.iload_n 2, 1) := by decide +kernel
theorem dX1_passNight_22 : decode cX1_passNight 22 = .ok (.iaload, 1) := by decide +kernel
theorem dX1_passNight_23 : decode cX1_passNight 23 = .ok (.aload_n 0, 1) := by decide +kernel
theorem dX1_passNight_24 : decode cX1_passNight 24 = .ok (.getfield 18, 3) := by decide +kernel
theorem dX1_passNight_27 : decode cX1_passNight 27 = .ok (.iload_n 2, 1) := by decide +kernel
theorem dX1_passNight_28 : decode cX1_passNight 28 = .ok (.iaload, 1) := by decide +kernel
theorem dX1_passNight_29 : decode cX1_passNight 29 = .ok (.invokestatic 71, 3) := by decide +kernel
theorem dX1_passNight_32 : decode cX1_passNight 32 = .ok (.iastore, 1) := by decide +kernel
theorem dX1_passNight_33 : decode cX1_passNight 33 = .ok (.iload_n 1, 1) := by decide +kernel
theorem dX1_passNight_34 : decode cX1_passNight 34 = .ok (.aload_n 0, 1) := by decide +kernel
theorem dX1_passNight_35 : decode cX1_passNight 35 = .ok (.getfield 24, 3) := by decide +kernel
theorem dX1_passNight_38 : decode cX1_passNight 38 = .ok (.aload_n 0, 1) := by decide +kernel
theorem dX1_passNight_39 : decode cX1_passNight 39 = .ok (.getfield 9, 3) := by decide +kernel
theorem dX1_passNight_42 : decode cX1_passNight 42 = .ok (.iload_n 2, 1) := by decide +kernel
theorem dX1_passNight_43 : decode cX1_passNight 43 = .ok (.iaload, 1) := by decide +kernel
theorem dX1_passNight_44 : decode cX1_passNight 44 = .ok (.iaload, 1) := by decide +kernel
theorem dX1_passNight_45 : decode cX1_passNight 45 = .ok (.iadd, 1) := by decide +kernel
theorem dX1_passNight_46 : decode cX1_passNight 46 = .ok (.istore_n 1, 1) := by decide +kernel
theorem dX1_passNight_47 : decode cX1_passNight 47 = .ok (.iinc 2 1, 3) := by decide +kernel
theorem dX1_passNight_50 : decode cX1_passNight 50 = .ok (.goto (-46), 3) := by decide +kernel
theorem dX1_passNight_53 : decode cX1_passNight 53 = .ok (.aload_n 0, 1) := by decide +kernel
theorem dX1_passNight_54 : decode cX1_passNight 54 = .ok (.aload_n 0, 1) := by decide +kernel
theorem dX1_passNight_55 : decode cX1_passNight 55 = .ok (.getfield 27, 3) := by decide +kernel
theorem dX1_passNight_58 : decode cX1_passNight 58 = .ok (.aload_n 0, 1) := by decide +kernel
theorem dX1_passNight_59 : decode cX1_passNight 59 = .ok (.getfield 31, 3) := by decide +kernel
theorem dX1_passNight_62 : decode cX1_passNight 62 = .ok (.iload_n 1, 1) := by decide +kernel
theorem dX1_passNight_63 : decode cX1_passNight 63 = .ok (.invokestatic 75, 3) := by decide +kernel
theorem dX1_passNight_66 : decode cX1_passNight 66 = .ok (.putfield 27, 3) := by decide +kernel
theorem dX1_passNight_69 : decode cX1_passNight 69 = .ok (.return_, 1) := by decide +kernel
theorem dX1_isOverburdened_0 : decode cX1_isOverburdened 0 = .ok (.aload_n 0, 1) := by decide +kernel
theorem dX1_isOverburdened_1 : decode cX1_isOverburdened 1 = .ok (.invokevirtual 79, 3) := by decide +kernel
theorem dX1_isOverburdened_4 : decode cX1_isOverburdened 4 = .ok (.aload_n 0, 1) := by decide +kernel
theorem dX1_isOverburdened_5 : decode cX1_isOverburdened 5 = .ok (.getfield 34, 3) := by decide +kernel
theorem dX1_isOverburdened_8 : decode cX1_isOverburdened 8 = .ok (.iload_n 1, 1) := by decide +kernel
theorem dX1_isOverburdened_9 : decode cX1_isOverburdened 9 = .ok (.isub, 1) := by decide +kernel
theorem dX1_isOverburdened_10 : decode cX1_isOverburdened 10 = .ok (.iconst 0, 1) := by decide +kernel
theorem dX1_isOverburdened_11 : decode cX1_isOverburdened 11 = .ok (.invokestatic 83, 3) := by decide +kernel
theorem dX1_isOverburdened_14 : decode cX1_isOverburdened 14 = .ok (.if_icmp .le 7, 3) := by decide +kernel
theorem dX1_isOverburdened_17 : decode cX1_isOverburdened 17 = .ok (.iconst 1, 1) := by decide +kernel
theorem dX1_isOverburdened_18 : decode cX1_isOverburdened 18 = .ok (.goto 4, 3) := by decide +kernel
theorem dX1_isOverburdened_21 : decode cX1_isOverburdened 21 = .ok (.iconst 0, 1) := by decide +kernel
theorem dX1_isOverburdened_22 : decode cX1_isOverburdened 22 = .ok (.ireturn, 1) := by decide +kernel
theorem dX1_fall_0 : decode cX1_fall 0 = .ok (.aload_n 0, 1) := by decide +kernel
theorem dX1_fall_1 : decode cX1_fall 1 = .ok (.iconst 0, 1) := by decide +kernel
theorem dX1_fall_2 : decode cX1_fall 2 = .ok (.putfield 27, 3) := by decide +kernel
theorem dX1_fall_5 : decode cX1_fall 5 = .ok (.aload_n 0, 1) := by decide +kernel
theorem dX1_fall_6 : decode cX1_fall 6 = .ok (.getfield 37, 3) := by decide +kernel
theorem dX1_fall_9 : decode cX1_fall 9 = .ok (.bipush (-4), 2) := by decide +kernel
theorem dX1_fall_11 : decode cX1_fall 11 = .ok (.if_icmp .ne 8, 3) := by decide +kernel
theorem dX1_fall_14 : decode cX1_fall 14 = .ok (.aload_n 0, 1) := by decide +kernel
theorem dX1_fall_15 : decode cX1_fall 15 = .ok (.iload_n 1, 1) := by decide +kernel
theorem dX1_fall_16 : decode cX1_fall 16 = .ok (.putfield 37, 3) := by decide +kernel
theorem dX1_fall_19 : decode cX1_fall 19 = .ok (.return_, 1) := by decide +kernel
