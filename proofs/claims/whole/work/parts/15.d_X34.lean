theorem dX3_init_0 : decode cX3_init 0 = .ok (.aload_n 0, 1) := by decide +kernel
theorem dX3_init_1 : decode cX3_init 1 = .ok (.invokespecial 3, 3) := by decide +kernel
theorem dX3_init_4 : decode cX3_init 4 = .ok (.aload_n 0, 1) := by decide +kernel
theorem dX3_init_5 : decode cX3_init 5 = .ok (.bipush 24, 2) := by decide +kernel
theorem dX3_init_7 : decode cX3_init 7 = .ok (.newarray .int, 2) := by decide +kernel
theorem dX3_init_9 : decode cX3_init 9 = .ok (.putfield 9, 3) := by decide +kernel
theorem dX3_init_12 : decode cX3_init 12 = .ok (.return_, 1) := by decide +kernel
theorem dX3_begin_0 : decode cX3_begin 0 = .ok (.aload_n 0, 1) := by decide +kernel
theorem dX3_begin_1 : decode cX3_begin 1 = .ok (.iconst 1, 1) := by decide +kernel
theorem dX3_begin_2 : decode cX3_begin 2 = .ok (.putfield 15, 3) := by decide +kernel
theorem dX3_begin_5 : decode cX3_begin 5 = .ok (.aload_n 0, 1) := by decide +kernel
theorem dX3_begin_6 : decode cX3_begin 6 = .ok (.iload_n 1, 1) := by decide +kernel
theorem dX3_begin_7 : decode cX3_begin 7 = .ok (.putfield 19, 3) := by decide +kernel
theorem dX3_begin_10 : decode cX3_begin 10 = .ok (.aload_n 0, 1) := by decide +kernel
theorem dX3_begin_11 : decode cX3_begin 11 = .ok (.iload_n 2, 1) := by decide +kernel
theorem dX3_begin_12 : decode cX3_begin 12 = .ok (.putfield 23, 3) := by decide +kernel
theorem dX3_begin_15 : decode cX3_begin 15 = .ok (.aload_n 0, 1) := by decide +kernel
theorem dX3_begin_16 : decode cX3_begin 16 = .ok (.getfield 9, 3) := by decide +kernel
theorem dX3_begin_19 : decode cX3_begin 19 = .ok (.iconst 0, 1) := by decide +kernel
theorem dX3_begin_20 : decode cX3_begin 20 = .ok (.invokestatic 26, 3) := by decide +kernel
theorem dX3_begin_23 : decode cX3_begin 23 = .ok (.return_, 1) := by decide +kernel
theorem dX3_narrowed_0 : decode cX3_narrowed 0 = .ok (.iload_n 0, 1) := by decide +kernel
theorem dX3_narrowed_1 : decode cX3_narrowed 1 = .ok (.ifCond .ne 6, 3) := by decide +kernel
theorem dX3_narrowed_4 : decode cX3_narrowed 4 = .ok (.iload_n 1, 1) := by decide +kernel
theorem dX3_narrowed_5 : decode cX3_narrowed 5 = .ok (.i2b, 1) := by decide +kernel
theorem dX3_narrowed_6 : decode cX3_narrowed 6 = .ok (.ireturn, 1) := by decide +kernel
theorem dX3_narrowed_7 : decode cX3_narrowed 7 = .ok (.iload_n 0, 1) := by decide +kernel
theorem dX3_narrowed_8 : decode cX3_narrowed 8 = .ok (.iconst 1, 1) := by decide +kernel
theorem dX3_narrowed_9 : decode cX3_narrowed 9 = .ok (.if_icmp .ne 8, 3) := by decide +kernel
theorem dX3_narrowed_12 : decode cX3_narrowed 12 = .ok (.iload_n 1, 1) := by decide +kernel
theorem dX3_narrowed_13 : decode cX3_narrowed 13 = .ok (.i2s, 1) := by decide +kernel
theorem dX3_narrowed_14 : decode cX3_narrowed 14 = .ok (.goto 4, 3) := by decide +kernel
theorem dX3_narrowed_17 : decode cX3_narrowed 17 = .ok (.iload_n 1, 1) := by decide +kernel
theorem dX3_narrowed_18 : decode cX3_narrowed 18 = .ok (.ireturn, 1) := by decide +kernel
theorem dX3_hasItems_0 : decode cX3_hasItems 0 = .ok (.iload_n 2, 1) := by decide +kernel
theorem dX3_hasItems_1 : decode cX3_hasItems 1 = .ok (.ifCond .lt 29, 3) := by decide +kernel
theorem dX3_hasItems_4 : decode cX3_hasItems 4 = .ok (.iload_n 1, 1) := by decide +kernel
theorem dX3_hasItems_5 : decode cX3_hasItems 5 = .ok (.ifCond .lt 25, 3) := by decide +kernel
theorem dX3_hasItems_8 : decode cX3_hasItems 8 = .ok (.iload_n 1, 1) := by decide +kernel
theorem dX3_hasItems_9 : decode cX3_hasItems 9 = .ok (.aload_n 0, 1) := by decide +kernel
theorem dX3_hasItems_10 : decode cX3_hasItems 10 = .ok (.getfield 23, 3) := by decide +kernel
theorem dX3_hasItems_13 : decode cX3_hasItems 13 = .ok (.if_icmp .gt 17, 3) := by decide +kernel
theorem dX3_hasItems_16 : decode cX3_hasItems 16 = .ok (.iload_n 2, 1) := by decide +kernel
theorem dX3_hasItems_17 : decode cX3_hasItems 17 = .ok (.aload_n 0, 1) := by decide +kernel
theorem dX3_hasItems_18 : decode cX3_hasItems 18 = .ok (.getfield 23, 3) := by decide +kernel
theorem dX3_hasItems_21 : decode cX3_hasItems 21 = .ok (.iload_n 1, 1) := by decide +kernel
theorem dX3_hasItems_22 : decode cX3_hasItems 22 = .ok (.isub, 1) := by decide +kernel
theorem dX3_hasItems_23 : decode cX3_hasItems 23 = .ok (.if_icmp .gt 7, 3) := by decide +kernel
theorem dX3_hasItems_26 : decode cX3_hasItems 26 = .ok (.iconst 1, 1) := by decide +kernel
theorem dX3_hasItems_27 : decode cX3_hasItems 27 = .ok (.goto 4, 3) := by decide +kernel
theorem dX3_hasItems_30 : decode cX3_hasItems 30 = .ok (.iconst 0, 1) := by decide +kernel
theorem dX3_hasItems_31 : decode cX3_hasItems 31 = .ok (.ireturn, 1) := by decide +kernel
theorem dX3_refusal_0 : decode cX3_refusal 0 = .ok (.aload_n 0, 1) := by decide +kernel
theorem dX3_refusal_1 : decode cX3_refusal 1 = .ok (.getfield 15, 3) := by decide +kernel
theorem dX3_refusal_4 : decode cX3_refusal 4 = .ok (.ifCond .ne 6, 3) := by decide +kernel
theorem dX3_refusal_7 : decode cX3_refusal 7 = .ok (.bipush (-11), 2) := by decide +kernel
theorem dX3_refusal_9 : decode cX3_refusal 9 = .ok (.ireturn, 1) := by decide +kernel
theorem dX3_refusal_10 : decode cX3_refusal 10 = .ok (.aload_n 0, 1) := by decide +kernel
theorem dX3_refusal_11 : decode cX3_refusal 11 = .ok (.getfield 19, 3) := by decide +kernel
theorem dX3_refusal_14 : decode cX3_refusal 14 = .ok (.iload_n 1, 1) := by decide +kernel
theorem dX3_refusal_15 : decode cX3_refusal 15 = .ok (.if_icmp .eq 6, 3) := by decide +kernel
theorem dX3_refusal_18 : decode cX3_refusal 18 = .ok (.bipush (-12), 2) := by decide +kernel
theorem dX3_refusal_20 : decode cX3_refusal 20 = .ok (.ireturn, 1) := by decide +kernel
theorem dX3_refusal_21 : decode cX3_refusal 21 = .ok (.aload_n 0, 1) := by decide +kernel
theorem dX3_refusal_22 : decode cX3_refusal 22 = .ok (.iload_n 2, 1) := by decide +kernel
theorem dX3_refusal_23 : decode cX3_refusal 23 = .ok (.iload_n 3, 1) := by decide +kernel
theorem dX3_refusal_24 : decode cX3_refusal 24 = .ok (.invokevirtual 32, 3) := by decide +kernel
theorem dX3_refusal_27 : decode cX3_refusal 27 = .ok (.ifCond .eq 7, 3) := by decide +kernel
theorem dX3_refusal_30 : decode cX3_refusal 30 = .ok (.iconst 0, 1) := by decide +kernel
theorem dX3_refusal_31 : decode cX3_refusal 31 = .ok (.goto 5, 3) := by decide +kernel
theorem dX3_refusal_34 : decode cX3_refusal 34 = .ok (.bipush (-13), 2) := by decide +kernel
theorem dX3_refusal_36 : decode cX3_refusal 36 = .ok (.ireturn, 1) := by decide +kernel
theorem dX4_init_0 : decode cX4_init 0 = .ok (.aload_n 0, 1) := by decide +kernel
theorem dX4_init_1 : decode cX4_init 1 = .ok (.invokespecial 3, 3) := by decide +kernel
theorem dX4_init_4 : decode cX4_init 4 = .ok (.aload_n 0, 1) := by decide +kernel
theorem dX4_init_5 : decode cX4_init 5 = .ok (.bipush 80, 2) := by decide +kernel
theorem dX4_init_7 : decode cX4_init 7 = .ok (.newarray .int, 2) := by decide +kernel
theorem dX4_init_9 : decode cX4_init 9 = .ok (.putfield 9, 3) := by decide +kernel
theorem dX4_init_12 : decode cX4_init 12 = .ok (.return_, 1) := by decide +kernel
theorem dX4_isPrintable_0 : decode cX4_isPrintable 0 = .ok (.iconst 0, 1) := by decide +kernel
theorem dX4_isPrintable_1 : decode cX4_isPrintable 1 = .ok (.istore_n 3, 1) := by decide +kernel
theorem dX4_isPrintable_2 : decode cX4_isPrintable 2 = .ok (.iload_n 3, 1) := by decide +kernel
theorem dX4_isPrintable_3 : decode cX4_isPrintable 3 = .ok (.iload_n 2, 1) := by decide +kernel
theorem dX4_isPrintable_4 : decode cX4_isPrintable 4 = .ok (.if_icmp .ge 32, 3) := by decide +kernel
theorem dX4_isPrintable_7 : decode cX4_isPrintable 7 = .ok (.lload_n 0, 1) := by decide +kernel
theorem dX4_isPrintable_8 : decode cX4_isPrintable 8 = .ok (.bipush 8, 2) := by decide +kernel
theorem dX4_isPrintable_10 : decode cX4_isPrintable 10 = .ok (.iload_n 3, 1) := by decide +kernel
theorem dX4_isPrintable_11 : decode cX4_isPrintable 11 = .ok (.imul, 1) := by decide +kernel
theorem dX4_isPrintable_12 : decode cX4_isPrintable 12 = .ok (.lshr, 1) := by decide +kernel
theorem dX4_isPrintable_13 : decode cX4_isPrintable 13 = .ok (.ldc2_w 15, 3) := by decide +kernel
theorem dX4_isPrintable_16 : decode cX4_isPrintable 16 = .ok (.land, 1) := by decide +kernel
theorem dX4_isPrintable_17 : decode cX4_isPrintable 17 = .ok (.l2i, 1) := by decide +kernel
theorem dX4_isPrintable_18 : decode cX4_isPrintable 18 = .ok (.bipush 32, 2) := by decide +kernel
theorem dX4_isPrintable_20 : decode cX4_isPrintable 20 = .ok (.bipush 126, 2) := by decide +kernel
theorem dX4_isPrintable_22 : decode cX4_isPrintable 22 = .ok (.invokestatic 17, 3) := by decide +kernel
theorem dX4_isPrintable_25 : decode cX4_isPrintable 25 = .ok (.ifCond .ne 5, 3) := by decide +kernel
theorem dX4_isPrintable_28 : decode cX4_isPrintable 28 = .ok (.iconst 0, 1) := by decide +kernel
theorem dX4_isPrintable_29 : decode cX4_isPrintable 29 = .ok (.ireturn, 1) := by decide +kernel
theorem dX4_isPrintable_30 : decode cX4_isPrintable 30 = .ok (.iinc 3 1, 3) := by decide +kernel
theorem dX4_isPrintable_33 : decode cX4_isPrintable 33 = .ok (.goto (-31), 3) := by decide +kernel
theorem dX4_isPrintable_36 : decode cX4_isPrintable 36 = .ok (.iconst 1, 1) := by decide +kernel
theorem dX4_isPrintable_37 : decode cX4_isPrintable 37 = .ok (.ireturn, 1) := by decide +kernel
theorem dX4_append_0 : decode cX4_append 0 = .ok (.iload_n 3, 1) := by decide +kernel
theorem dX4_append_1 : decode cX4_append 1 = .ok (.iconst 1, 1) := by decide +kernel
theorem dX4_append_2 : decode cX4_append 2 = .ok (.isub, 1) := by decide +kernel
theorem dX4_append_3 : decode cX4_append 3 = .ok (.istore 4, 2) := by decide +kernel
theorem dX4_append_5 : decode cX4_append 5 = .ok (.iload 4, 2) := by decide +kernel
theorem dX4_append_7 : decode cX4_append 7 = .ok (.ifCond .lt 49, 3) := by decide +kernel
theorem dX4_append_10 : decode cX4_append 10 = .ok (.aload_n 0, 1) := by decide +kernel
theorem dX4_append_11 : decode cX4_append 11 = .ok (.getfield 21, 3) := by decide +kernel
theorem dX4_append_14 : decode cX4_append 14 = .ok (.bipush 80, 2) := by decide +kernel
theorem dX4_append_16 : decode cX4_append 16 = .ok (.if_icmp .ge 40, 3) := by decide +kernel
theorem dX4_append_19 : decode cX4_append 19 = .ok (.aload_n 0, 1) := by decide +kernel
theorem dX4_append_20 : decode cX4_append 20 = .ok (.getfield 9, 3) := by decide +kernel
theorem dX4_append_23 : decode cX4_append 23 = .ok (.aload_n 0, 1) := by decide +kernel
theorem dX4_append_24 : decode cX4_append 24 = .ok (.getfield 21, 3) := by decide +kernel
theorem dX4_append_27 : decode cX4_append 27 = .ok (.lload_n 1, 1) := by decide +kernel
theorem dX4_append_28 : decode cX4_append 28 = .ok (.bipush 8, 2) := by decide +kernel
theorem dX4_append_30 : decode cX4_append 30 = .ok (.iload 4, 2) := by decide +kernel
theorem dX4_append_32 : decode cX4_append 32 = .ok (.imul, 1) := by decide +kernel
theorem dX4_append_33 : decode cX4_append 33 = .ok (.lshr, 1) := by decide +kernel
theorem dX4_append_34 : decode cX4_append 34 = .ok (.ldc2_w 15, 3) := by decide +kernel
theorem dX4_append_37 : decode cX4_append 37 = .ok (.land, 1) := by decide +kernel
theorem dX4_append_38 : decode cX4_append 38 = .ok (.l2i, 1) := by decide +kernel
theorem dX4_append_39 : decode cX4_append 39 = .ok (.iastore, 1) := by decide +kernel
theorem dX4_append_40 : decode cX4_append 40 = .ok (.aload_n 0, 1) := by decide +kernel
theorem dX4_append_41 : decode cX4_append 41 = .ok (.dup, 1) := by decide +kernel
theorem dX4_append_42 : decode cX4_append 42 = .ok (.getfield 21, 3) := by decide +kernel
theorem dX4_append_45 : decode cX4_append 45 = .ok (.iconst 1, 1) := by decide +kernel
theorem dX4_append_46 : decode cX4_append 46 = .ok (.iadd, 1) := by decide +kernel
theorem dX4_append_47 : decode cX4_append 47 = .ok (.putfield 21, 3) := by decide +kernel
theorem dX4_append_50 : decode cX4_append 50 = .ok (.iinc 4 (-1), 3) := by decide +kernel
theorem dX4_append_53 : decode cX4_append 53 = .ok (.goto (-48), 3) := by decide +kernel
theorem dX4_append_56 : decode cX4_append 56 = .ok (.return_, 1) := by decide +kernel
theorem dX4_readCoats_0 : decode cX4_readCoats 0 = .ok (.aload_n 0, 1) := by decide +kernel
theorem dX4_readCoats_1 : decode cX4_readCoats 1 = .ok (.iconst 0, 1) := by decide +kernel
theorem dX4_readCoats_2 : decode cX4_readCoats 2 = .ok (.putfield 25, 3) := by decide +kernel
theorem dX4_readCoats_5 : decode cX4_readCoats 5 = .ok (.aload_n 1, 1) := by decide +kernel
theorem dX4_readCoats_6 : decode cX4_readCoats 6 = .ok (.iconst 0, 1) := by decide +kernel
theorem dX4_readCoats_7 : decode cX4_readCoats 7 = .ok (.putfield 28, 3) := by decide +kernel
theorem dX4_readCoats_10 : decode cX4_readCoats 10 = .ok (.iconst 1, 1) := by decide +kernel
theorem dX4_readCoats_11 : decode cX4_readCoats 11 = .ok (.istore_n 2, 1) := by decide +kernel
theorem dX4_readCoats_12 : decode cX4_readCoats 12 = .ok (.iload_n 2, 1) := by decide +kernel
theorem dX4_readCoats_13 : decode cX4_readCoats 13 = .ok (.bipush 6, 2) := by decide +kernel
theorem dX4_readCoats_15 : decode cX4_readCoats 15 = .ok (.if_icmp .gt 50, 3) := by decide +kernel
theorem dX4_readCoats_18 : decode cX4_readCoats 18 = .ok (.aload_n 0, 1) := by decide +kernel
theorem dX4_readCoats_19 : decode cX4_readCoats 19 = .ok (.aload_n 1, 1) := by decide +kernel
theorem dX4_readCoats_20 : decode cX4_readCoats 20 = .ok (.invokevirtual 33, 3) := by decide +kernel
theorem dX4_readCoats_23 : decode cX4_readCoats 23 = .ok (.ifCond .ne 6, 3) := by decide +kernel
theorem dX4_readCoats_26 : decode cX4_readCoats 26 = .ok (.goto 39, 3) := by decide +kernel
theorem dX4_readCoats_29 : decode cX4_readCoats 29 = .ok (.aload_n 0, 1) := by decide +kernel
theorem dX4_readCoats_30 : decode cX4_readCoats 30 = .ok (.invokevirtual 37, 3) := by decide +kernel
theorem dX4_readCoats_33 : decode cX4_readCoats 33 = .ok (.ifCond .ge 8, 3) := by decide +kernel
theorem dX4_readCoats_36 : decode cX4_readCoats 36 = .ok (.aload_n 1, 1) := by decide +kernel
theorem dX4_readCoats_37 : decode cX4_readCoats 37 = .ok (.getfield 28, 3) := by decide +kernel
theorem dX4_readCoats_40 : decode cX4_readCoats 40 = .ok (.ireturn, 1) := by decide +kernel
theorem dX4_readCoats_41 : decode cX4_readCoats 41 = .ok (.iload_n 2, 1) := by decide +kernel
theorem dX4_readCoats_42 : decode cX4_readCoats 42 = .ok (.bipush 6, 2) := by decide +kernel
theorem dX4_readCoats_44 : decode cX4_readCoats 44 = .ok (.if_icmp .eq 21, 3) := by decide +kernel
theorem dX4_readCoats_47 : decode cX4_readCoats 47 = .ok (.aload_n 0, 1) := by decide +kernel
theorem dX4_readCoats_48 : decode cX4_readCoats 48 = .ok (.bipush 59, 2) := by decide +kernel
theorem dX4_readCoats_50 : decode cX4_readCoats 50 = .ok (.invokevirtual 41, 3) := by decide +kernel
theorem dX4_readCoats_53 : decode cX4_readCoats 53 = .ok (.ifCond .ne 6, 3) := by decide +kernel
theorem dX4_readCoats_56 : decode cX4_readCoats 56 = .ok (.goto 9, 3) := by decide +kernel
theorem dX4_readCoats_59 : decode cX4_readCoats 59 = .ok (.iinc 2 1, 3) := by decide +kernel
theorem dX4_readCoats_62 : decode cX4_readCoats 62 = .ok (.goto (-50), 3) := by decide +kernel
theorem dX4_readCoats_65 : decode cX4_readCoats 65 = .ok (.bipush (-20), 2) := by decide +kernel
theorem dX4_readCoats_67 : decode cX4_readCoats 67 = .ok (.aload_n 0, 1) := by decide +kernel
theorem dX4_readCoats_68 : decode cX4_readCoats 68 = .ok (.getfield 25, 3) := by decide +kernel
theorem dX4_readCoats_71 : decode cX4_readCoats 71 = .ok (.isub, 1) := by decide +kernel
theorem dX4_readCoats_72 : decode cX4_readCoats 72 = .ok (.ireturn, 1) := by decide +kernel
theorem dX4_readCoat_0 : decode cX4_readCoat 0 = .ok (.aload_n 0, 1) := by decide +kernel
theorem dX4_readCoat_1 : decode cX4_readCoat 1 = .ok (.invokevirtual 37, 3) := by decide +kernel
theorem dX4_readCoat_4 : decode cX4_readCoat 4 = .ok (.bipush 97, 2) := by decide +kernel
theorem dX4_readCoat_6 : decode cX4_readCoat 6 = .ok (.isub, 1) := by decide +kernel
theorem dX4_readCoat_7 : decode cX4_readCoat 7 = .ok (.istore_n 2, 1) := by decide +kernel
theorem dX4_readCoat_8 : decode cX4_readCoat 8 = .ok (.iload_n 2, 1) := by decide +kernel
theorem dX4_readCoat_9 : decode cX4_readCoat 9 = .ok (.invokestatic 45, 3) := by decide +kernel
theorem dX4_readCoat_12 : decode cX4_readCoat 12 = .ok (.ifCond .ne 5, 3) := by decide +kernel
theorem dX4_readCoat_15 : decode cX4_readCoat 15 = .ok (.iconst 0, 1) := by decide +kernel
theorem dX4_readCoat_16 : decode cX4_readCoat 16 = .ok (.ireturn, 1) := by decide +kernel
theorem dX4_readCoat_17 : decode cX4_readCoat 17 = .ok (.aload_n 0, 1) := by decide +kernel
theorem dX4_readCoat_18 : decode cX4_readCoat 18 = .ok (.dup, 1) := by decide +kernel
theorem dX4_readCoat_19 : decode cX4_readCoat 19 = .ok (.getfield 25, 3) := by decide +kernel
theorem dX4_readCoat_22 : decode cX4_readCoat 22 = .ok (.iconst 1, 1) := by decide +kernel
theorem dX4_readCoat_23 : decode cX4_readCoat 23 = .ok (.iadd, 1) := by decide +kernel
theorem dX4_readCoat_24 : decode cX4_readCoat 24 = .ok (.putfield 25, 3) := by decide +kernel
theorem dX4_readCoat_27 : decode cX4_readCoat 27 = .ok (.aload_n 0, 1) := by decide +kernel
theorem dX4_readCoat_28 : decode cX4_readCoat 28 = .ok (.iconst 1, 1) := by decide +kernel
theorem dX4_readCoat_29 : decode cX4_readCoat 29 = .ok (.sipush 9999, 3) := by decide +kernel
theorem dX4_readCoat_32 : decode cX4_readCoat 32 = .ok (.invokevirtual 48, 3) := by decide +kernel
theorem dX4_readCoat_35 : decode cX4_readCoat 35 = .ok (.istore_n 3, 1) := by decide +kernel
theorem dX4_readCoat_36 : decode cX4_readCoat 36 = .ok (.iload_n 3, 1) := by decide +kernel
theorem dX4_readCoat_37 : decode cX4_readCoat 37 = .ok (.ifCond .ge 5, 3) := by decide +kernel
theorem dX4_readCoat_40 : decode cX4_readCoat 40 = .ok (.iconst 0, 1) := by decide +kernel
theorem dX4_readCoat_41 : decode cX4_readCoat 41 = .ok (.ireturn, 1) := by decide +kernel
theorem dX4_readCoat_42 : decode cX4_readCoat 42 = .ok (.aload_n 0, 1) := by decide +kernel
theorem dX4_readCoat_43 : decode cX4_readCoat 43 = .ok (.bipush 114, 2) := by decide +kernel
theorem dX4_readCoat_45 : decode cX4_readCoat 45 = .ok (.invokevirtual 41, 3) := by decide +kernel
theorem dX4_readCoat_48 : decode cX4_readCoat 48 = .ok (.ifCond .eq 13, 3) := by decide +kernel
theorem dX4_readCoat_51 : decode cX4_readCoat 51 = .ok (.aload_n 0, 1) := by decide +kernel
theorem dX4_readCoat_52 : decode cX4_readCoat 52 = .ok (.iconst 0, 1) := by decide +kernel
theorem dX4_readCoat_53 : decode cX4_readCoat 53 = .ok (.bipush 20, 2) := by decide +kernel
theorem dX4_readCoat_55 : decode cX4_readCoat 55 = .ok (.invokevirtual 48, 3) := by decide +kernel
theorem dX4_readCoat_58 : decode cX4_readCoat 58 = .ok (.goto 4, 3) := by decide +kernel
theorem dX4_readCoat_61 : decode cX4_readCoat 61 = .ok (.iconst 0, 1) := by decide +kernel
theorem dX4_readCoat_62 : decode cX4_readCoat 62 = .ok (.istore 4, 2) := by decide +kernel
theorem dX4_readCoat_64 : decode cX4_readCoat 64 = .ok (.iload 4, 2) := by decide +kernel
theorem dX4_readCoat_66 : decode cX4_readCoat 66 = .ok (.ifCond .ge 5, 3) := by decide +kernel
theorem dX4_readCoat_69 : decode cX4_readCoat 69 = .ok (.iconst 0, 1) := by decide +kernel
theorem dX4_readCoat_70 : decode cX4_readCoat 70 = .ok (.ireturn, 1) := by decide +kernel
theorem dX4_readCoat_71 : decode cX4_readCoat 71 = .ok (.aload_n 0, 1) := by decide +kernel
theorem dX4_readCoat_72 : decode cX4_readCoat 72 = .ok (.bipush 116, 2) := by decide +kernel
theorem dX4_readCoat_74 : decode cX4_readCoat 74 = .ok (.invokevirtual 41, 3) := by decide +kernel
theorem dX4_readCoat_77 : decode cX4_readCoat 77 = .ok (.ifCond .eq 10, 3) := by decide +kernel
theorem dX4_readCoat_80 : decode cX4_readCoat 80 = .ok (.aload_n 0, 1) := by decide +kernel
theorem dX4_readCoat_81 : decode cX4_readCoat 81 = .ok (.invokevirtual 52, 3) := by decide +kernel
theorem dX4_readCoat_84 : decode cX4_readCoat 84 = .ok (.goto 4, 3) := by decide +kernel
theorem dX4_readCoat_87 : decode cX4_readCoat 87 = .ok (.iconst 1, 1) := by decide +kernel
theorem dX4_readCoat_88 : decode cX4_readCoat 88 = .ok (.istore 5, 2) := by decide +kernel
theorem dX4_readCoat_90 : decode cX4_readCoat 90 = .ok (.iload 5, 2) := by decide +kernel
theorem dX4_readCoat_92 : decode cX4_readCoat 92 = .ok (.ifCond .ge 5, 3) := by decide +kernel
theorem dX4_readCoat_95 : decode cX4_readCoat 95 = .ok (.iconst 0, 1) := by decide +kernel
theorem dX4_readCoat_96 : decode cX4_readCoat 96 = .ok (.ireturn, 1) := by decide +kernel
theorem dX4_readCoat_97 : decode cX4_readCoat 97 = .ok (.aload_n 1, 1) := by decide +kernel
theorem dX4_readCoat_98 : decode cX4_readCoat 98 = .ok (.iload_n 2, 1) := by decide +kernel
theorem dX4_readCoat_99 : decode cX4_readCoat 99 = .ok (.iload_n 3, 1) := by decide +kernel
theorem dX4_readCoat_100 : decode cX4_readCoat 100 = .ok (.iload 4, 2) := by decide +kernel
theorem dX4_readCoat_102 : decode cX4_readCoat 102 = .ok (.iload 5, 2) := by decide +kernel
theorem dX4_readCoat_104 : decode cX4_readCoat 104 = .ok (.invokevirtual 55, 3) := by decide +kernel
theorem dX4_readCoat_107 : decode cX4_readCoat 107 = .ok (.iconst 1, 1) := by decide +kernel
theorem dX4_readCoat_108 : decode cX4_readCoat 108 = .ok (.ireturn, 1) := by decide +kernel
theorem dX4_nextByte_0 : decode cX4_nextByte 0 = .ok (.aload_n 0, 1) := by decide +kernel
theorem dX4_nextByte_1 : decode cX4_nextByte 1 = .ok (.getfield 25, 3) := by decide +kernel
theorem dX4_nextByte_4 : decode cX4_nextByte 4 = .ok (.aload_n 0, 1) := by decide +kernel
theorem dX4_nextByte_5 : decode cX4_nextByte 5 = .ok (.getfield 21, 3) := by decide +kernel
theorem dX4_nextByte_8 : decode cX4_nextByte 8 = .ok (.if_icmp .ge 30, 3) := by decide +kernel
theorem dX4_nextByte_11 : decode cX4_nextByte 11 = .ok (.aload_n 0, 1) := by decide +kernel
theorem dX4_nextByte_12 : decode cX4_nextByte 12 = .ok (.getfield 9, 3) := by decide +kernel
theorem dX4_nextByte_15 : decode cX4_nextByte 15 = .ok (.aload_n 0, 1) := by decide +kernel
theorem dX4_nextByte_16 : decode cX4_nextByte 16 = .ok (.getfield 25, 3) := by decide +kernel
theorem dX4_nextByte_19 : decode cX4_nextByte 19 = .ok (.iaload, 1) := by decide +kernel
theorem dX4_nextByte_20 : decode cX4_nextByte 20 = .ok (.bipush 32, 2) := by decide +kernel
theorem dX4_nextByte_22 : decode cX4_nextByte 22 = .ok (.if_icmp .ne 16, 3) := by decide +kernel
theorem dX4_nextByte_25 : decode cX4_nextByte 25 = .ok (.aload_n 0, 1) := by decide +kernel
theorem dX4_nextByte_26 : decode cX4_nextByte 26 = .ok (.dup, 1) := by decide +kernel
theorem dX4_nextByte_27 : decode cX4_nextByte 27 = .ok (.getfield 25, 3) := by decide +kernel
theorem dX4_nextByte_30 : decode cX4_nextByte 30 = .ok (.iconst 1, 1) := by decide +kernel
theorem dX4_nextByte_31 : decode cX4_nextByte 31 = .ok (.iadd, 1) := by decide +kernel
theorem dX4_nextByte_32 : decode cX4_nextByte 32 = .ok (.putfield 25, 3) := by decide +kernel
theorem dX4_nextByte_35 : decode cX4_nextByte 35 = .ok (.goto (-35), 3) := by decide +kernel
theorem dX4_nextByte_38 : decode cX4_nextByte 38 = .ok (.aload_n 0, 1) := by decide +kernel
theorem dX4_nextByte_39 : decode cX4_nextByte 39 = .ok (.getfield 25, 3) := by decide +kernel
theorem dX4_nextByte_42 : decode cX4_nextByte 42 = .ok (.aload_n 0, 1) := by decide +kernel
theorem dX4_nextByte_43 : decode cX4_nextByte 43 = .ok (.getfield 21, 3) := by decide +kernel
theorem dX4_nextByte_46 : decode cX4_nextByte 46 = .ok (.if_icmp .ge 15, 3) := by decide +kernel
theorem dX4_nextByte_49 : decode cX4_nextByte 49 = .ok (.aload_n 0, 1) := by decide +kernel
theorem dX4_nextByte_50 : decode cX4_nextByte 50 = .ok (.getfield 9, 3) := by decide +kernel
theorem dX4_nextByte_53 : decode cX4_nextByte 53 = .ok (.aload_n 0, 1) := by decide +kernel
theorem dX4_nextByte_54 : decode cX4_nextByte 54 = .ok (.getfield 25, 3) := by decide +kernel
theorem dX4_nextByte_57 : decode cX4_nextByte 57 = .ok (.iaload, 1) := by decide +kernel
theorem dX4_nextByte_58 : decode cX4_nextByte 58 = .ok (.goto 4, 3) := by decide +kernel
theorem dX4_nextByte_61 : decode cX4_nextByte 61 = .ok (.iconst (-1), 1) := by decide +kernel
theorem dX4_nextByte_62 : decode cX4_nextByte 62 = .ok (.ireturn, 1) := by decide +kernel
theorem dX4_skipIf_0 : decode cX4_skipIf 0 = .ok (.aload_n 0, 1) := by decide +kernel
theorem dX4_skipIf_1 : decode cX4_skipIf 1 = .ok (.invokevirtual 37, 3) := by decide +kernel
theorem dX4_skipIf_4 : decode cX4_skipIf 4 = .ok (.iload_n 1, 1) := by decide +kernel
theorem dX4_skipIf_5 : decode cX4_skipIf 5 = .ok (.if_icmp .eq 5, 3) := by decide +kernel
theorem dX4_skipIf_8 : decode cX4_skipIf 8 = .ok (.iconst 0, 1) := by decide +kernel
theorem dX4_skipIf_9 : decode cX4_skipIf 9 = .ok (.ireturn, 1) := by decide +kernel
theorem dX4_skipIf_10 : decode cX4_skipIf 10 = .ok (.aload_n 0, 1) := by decide +kernel
theorem dX4_skipIf_11 : decode cX4_skipIf 11 = .ok (.dup, 1) := by decide +kernel
theorem dX4_skipIf_12 : decode cX4_skipIf 12 = .ok (.getfield 25, 3) := by decide +kernel
theorem dX4_skipIf_15 : decode cX4_skipIf 15 = .ok (.iconst 1, 1) := by decide +kernel
theorem dX4_skipIf_16 : decode cX4_skipIf 16 = .ok (.iadd, 1) := by decide +kernel
theorem dX4_skipIf_17 : decode cX4_skipIf 17 = .ok (.putfield 25, 3) := by decide +kernel
theorem dX4_skipIf_20 : decode cX4_skipIf 20 = .ok (.iconst 1, 1) := by decide +kernel
theorem dX4_skipIf_21 : decode cX4_skipIf 21 = .ok (.ireturn, 1) := by decide +kernel
theorem dX4_readNumber_0 : decode cX4_readNumber 0 = .ok (.aload_n 0, 1) := by decide +kernel
theorem dX4_readNumber_1 : decode cX4_readNumber 1 = .ok (.invokevirtual 37, 3) := by decide +kernel
theorem dX4_readNumber_4 : decode cX4_readNumber 4 = .ok (.pop, 1) := by decide +kernel
theorem dX4_readNumber_5 : decode cX4_readNumber 5 = .ok (.aload_n 0, 1) := by decide +kernel
theorem dX4_readNumber_6 : decode cX4_readNumber 6 = .ok (.getfield 25, 3) := by decide +kernel
theorem dX4_readNumber_9 : decode cX4_readNumber 9 = .ok (.istore_n 3, 1) := by decide +kernel
theorem dX4_readNumber_10 : decode cX4_readNumber 10 = .ok (.iconst 0, 1) := by decide +kernel
theorem dX4_readNumber_11 : decode cX4_readNumber 11 = .ok (.istore 4, 2) := by decide +kernel
theorem dX4_readNumber_13 : decode cX4_readNumber 13 = .ok (.aload_n 0, 1) := by decide +kernel
theorem dX4_readNumber_14 : decode cX4_readNumber 14 = .ok (.getfield 25, 3) := by decide +kernel
theorem dX4_readNumber_17 : decode cX4_readNumber 17 = .ok (.aload_n 0, 1) := by decide +kernel
theorem dX4_readNumber_18 : decode cX4_readNumber 18 = .ok (.getfield 21, 3) := by decide +kernel
theorem dX4_readNumber_21 : decode cX4_readNumber 21 = .ok (.if_icmp .ge 60, 3) := by decide +kernel
theorem dX4_readNumber_24 : decode cX4_readNumber 24 = .ok (.aload_n 0, 1) := by decide +kernel
theorem dX4_readNumber_25 : decode cX4_readNumber 25 = .ok (.getfield 9, 3) := by decide +kernel
theorem dX4_readNumber_28 : decode cX4_readNumber 28 = .ok (.aload_n 0, 1) := by decide +kernel
theorem dX4_readNumber_29 : decode cX4_readNumber 29 = .ok (.getfield 25, 3) := by decide +kernel
theorem dX4_readNumber_32 : decode cX4_readNumber 32 = .ok (.iaload, 1) := by decide +kernel
theorem dX4_readNumber_33 : decode cX4_readNumber 33 = .ok (.bipush 48, 2) := by decide +kernel
theorem dX4_readNumber_35 : decode cX4_readNumber 35 = .ok (.bipush 57, 2) := by decide +kernel
theorem dX4_readNumber_37 : decode cX4_readNumber 37 = .ok (.invokestatic 17, 3) := by decide +kernel
theorem dX4_readNumber_40 : decode cX4_readNumber 40 = .ok (.ifCond .eq 41, 3) := by decide +kernel
theorem dX4_readNumber_43 : decode cX4_readNumber 43 = .ok (.iload 4, 2) := by decide +kernel
theorem dX4_readNumber_45 : decode cX4_readNumber 45 = .ok (.bipush 10, 2) := by decide +kernel
theorem dX4_readNumber_47 : decode cX4_readNumber 47 = .ok (.imul, 1) := by decide +kernel
theorem dX4_readNumber_48 : decode cX4_readNumber 48 = .ok (.aload_n 0, 1) := by decide +kernel
theorem dX4_readNumber_49 : decode cX4_readNumber 49 = .ok (.getfield 9, 3) := by decide +kernel
theorem dX4_readNumber_52 : decode cX4_readNumber 52 = .ok (.aload_n 0, 1) := by decide +kernel
theorem dX4_readNumber_53 : decode cX4_readNumber 53 = .ok (.getfield 25, 3) := by decide +kernel
theorem dX4_readNumber_56 : decode cX4_readNumber 56 = .ok (.iaload, 1) := by decide +kernel
theorem dX4_readNumber_57 : decode cX4_readNumber 57 = .ok (.iadd, 1) := by decide +kernel
theorem dX4_readNumber_58 : decode cX4_readNumber 58 = .ok (.bipush 48, 2) := by decide +kernel
theorem dX4_readNumber_60 : decode cX4_readNumber 60 = .ok (.isub, 1) := by decide +kernel
theorem dX4_readNumber_61 : decode cX4_readNumber 61 = .ok (.ldc 59, 2) := by decide +kernel
theorem dX4_readNumber_63 : decode cX4_readNumber 63 = .ok (.invokestatic 60, 3) := by decide +kernel
theorem dX4_readNumber_66 : decode cX4_readNumber 66 = .ok (.istore 4, 2) := by decide +kernel
theorem dX4_readNumber_68 : decode cX4_readNumber 68 = .ok (.aload_n 0, 1) := by decide +kernel
theorem dX4_readNumber_69 : decode cX4_readNumber 69 = .ok (.dup, 1) := by decide +kernel
theorem dX4_readNumber_70 : decode cX4_readNumber 70 = .ok (.getfield 25, 3) := by decide +kernel
theorem dX4_readNumber_73 : decode cX4_readNumber 73 = .ok (.iconst 1, 1) := by decide +kernel
theorem dX4_readNumber_74 : decode cX4_readNumber 74 = .ok (.iadd, 1) := by decide +kernel
theorem dX4_readNumber_75 : decode cX4_readNumber 75 = .ok (.putfield 25, 3) := by decide +kernel
theorem dX4_readNumber_78 : decode cX4_readNumber 78 = .ok (.goto (-65), 3) := by decide +kernel
theorem dX4_readNumber_81 : decode cX4_readNumber 81 = .ok (.aload_n 0, 1) := by decide +kernel
theorem dX4_readNumber_82 : decode cX4_readNumber 82 = .ok (.getfield 25, 3) := by decide +kernel
theorem dX4_readNumber_85 : decode cX4_readNumber 85 = .ok (.iload_n 3, 1) := by decide +kernel
theorem dX4_readNumber_86 : decode cX4_readNumber 86 = .ok (.if_icmp .le 16, 3) := by decide +kernel
theorem dX4_readNumber_89 : decode cX4_readNumber 89 = .ok (.iload 4, 2) := by decide +kernel
theorem dX4_readNumber_91 : decode cX4_readNumber 91 = .ok (.iload_n 1, 1) := by decide +kernel
theorem dX4_readNumber_92 : decode cX4_readNumber 92 = .ok (.iload_n 2, 1) := by decide +kernel
theorem dX4_readNumber_93 : decode cX4_readNumber 93 = .ok (.invokestatic 17, 3) := by decide +kernel
theorem dX4_readNumber_96 : decode cX4_readNumber 96 = .ok (.ifCond .eq 6, 3) := by decide +kernel
theorem dX4_readNumber_99 : decode cX4_readNumber 99 = .ok (.iload 4, 2) := by decide +kernel
theorem dX4_readNumber_101 : decode cX4_readNumber 101 = .ok (.ireturn, 1) := by decide +kernel
theorem dX4_readNumber_102 : decode cX4_readNumber 102 = .ok (.aload_n 0, 1) := by decide +kernel
theorem dX4_readNumber_103 : decode cX4_readNumber 103 = .ok (.iload_n 3, 1) := by decide +kernel
theorem dX4_readNumber_104 : decode cX4_readNumber 104 = .ok (.putfield 25, 3) := by decide +kernel
theorem dX4_readNumber_107 : decode cX4_readNumber 107 = .ok (.iconst (-1), 1) := by decide +kernel
theorem dX4_readNumber_108 : decode cX4_readNumber 108 = .ok (.ireturn, 1) := by decide +kernel
theorem dX4_readDigit_0 : decode cX4_readDigit 0 = .ok (.aload_n 0, 1) := by decide +kernel
theorem dX4_readDigit_1 : decode cX4_readDigit 1 = .ok (.invokevirtual 37, 3) := by decide +kernel
theorem dX4_readDigit_4 : decode cX4_readDigit 4 = .ok (.istore_n 1, 1) := by decide +kernel
theorem dX4_readDigit_5 : decode cX4_readDigit 5 = .ok (.iload_n 1, 1) := by decide +kernel
theorem dX4_readDigit_6 : decode cX4_readDigit 6 = .ok (.bipush 49, 2) := by decide +kernel
theorem dX4_readDigit_8 : decode cX4_readDigit 8 = .ok (.bipush 57, 2) := by decide +kernel
theorem dX4_readDigit_10 : decode cX4_readDigit 10 = .ok (.invokestatic 17, 3) := by decide +kernel
theorem dX4_readDigit_13 : decode cX4_readDigit 13 = .ok (.ifCond .ne 5, 3) := by decide +kernel
theorem dX4_readDigit_16 : decode cX4_readDigit 16 = .ok (.iconst (-1), 1) := by decide +kernel
theorem dX4_readDigit_17 : decode cX4_readDigit 17 = .ok (.ireturn, 1) := by decide +kernel
theorem dX4_readDigit_18 : decode cX4_readDigit 18 = .ok (.aload_n 0, 1) := by decide +kernel
theorem dX4_readDigit_19 : decode cX4_readDigit 19 = .ok (.dup, 1) := by decide +kernel
theorem dX4_readDigit_20 : decode cX4_readDigit 20 = .ok (.getfield 25, 3) := by decide +kernel
theorem dX4_readDigit_23 : decode cX4_readDigit 23 = .ok (.iconst 1, 1) := by decide +kernel
theorem dX4_readDigit_24 : decode cX4_readDigit 24 = .ok (.iadd, 1) := by decide +kernel
theorem dX4_readDigit_25 : decode cX4_readDigit 25 = .ok (.putfield 25, 3) := by decide +kernel
theorem dX4_readDigit_28 : decode cX4_readDigit 28 = .ok (.iload_n 1, 1) := by decide +kernel
theorem dX4_readDigit_29 : decode cX4_readDigit 29 = .ok (.bipush 48, 2) := by decide +kernel
theorem dX4_readDigit_31 : decode cX4_readDigit 31 = .ok (.isub, 1) := by decide +kernel
theorem dX4_readDigit_32 : decode cX4_readDigit 32 = .ok (.ireturn, 1) := by decide +kernel
