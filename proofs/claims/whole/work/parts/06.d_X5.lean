theorem dX5_init_0 : decode cX5_init 0 = .ok (.aload_n 0, 1) := by decide +kernel
theorem dX5_init_1 : decode cX5_init 1 = .ok (.invokespecial 3, 3) := by decide +kernel
theorem dX5_init_4 : decode cX5_init 4 = .ok (.aload_n 0, 1) := by decide +kernel
theorem dX5_init_5 : decode cX5_init 5 = .ok (.iconst 5, 1) := by decide +kernel
theorem dX5_init_6 : decode cX5_init 6 = .ok (.anewarray 9, 3) := by decide +kernel
theorem dX5_init_9 : decode cX5_init 9 = .ok (.putfield 11, 3) := by decide +kernel
theorem dX5_init_12 : decode cX5_init 12 = .ok (.aload_n 0, 1) := by decide +kernel
theorem dX5_init_13 : decode cX5_init 13 = .ok (.bipush 12, 2) := by decide +kernel
theorem dX5_init_15 : decode cX5_init 15 = .ok (.newarray .int, 2) := by decide +kernel
theorem dX5_init_17 : decode cX5_init 17 = .ok (.putfield 17, 3) := by decide +kernel
theorem dX5_init_20 : decode cX5_init 20 = .ok (.aload_n 0, 1) := by decide +kernel
theorem dX5_init_21 : decode cX5_init 21 = .ok (.bipush 8, 2) := by decide +kernel
theorem dX5_init_23 : decode cX5_init 23 = .ok (.newarray .int, 2) := by decide +kernel
theorem dX5_init_25 : decode cX5_init 25 = .ok (.putfield 21, 3) := by decide +kernel
theorem dX5_init_28 : decode cX5_init 28 = .ok (.aload_n 0, 1) := by decide +kernel
theorem dX5_init_29 : decode cX5_init 29 = .ok (.bipush 8, 2) := by decide +kernel
theorem dX5_init_31 : decode cX5_init 31 = .ok (.newarray .int, 2) := by decide +kernel
theorem dX5_init_33 : decode cX5_init 33 = .ok (.putfield 24, 3) := by decide +kernel
theorem dX5_init_36 : decode cX5_init 36 = .ok (.iconst 0, 1) := by decide +kernel
theorem dX5_init_37 : decode cX5_init 37 = .ok (.istore_n 1, 1) := by decide +kernel
theorem dX5_init_38 : decode cX5_init 38 = .ok (.iload_n 1, 1) := by decide +kernel
theorem dX5_init_39 : decode cX5_init 39 = .ok (.iconst 5, 1) := by decide +kernel
theorem dX5_init_40 : decode cX5_init 40 = .ok (.if_icmp .ge 22, 3) := by decide +kernel
theorem dX5_init_43 : decode cX5_init 43 = .ok (.aload_n 0, 1) := by decide +kernel
theorem dX5_init_44 : decode cX5_init 44 = .ok (.getfield 11, 3) := by decide +kernel
theorem dX5_init_47 : decode cX5_init 47 = .ok (.iload_n 1, 1) := by decide +kernel
theorem dX5_init_48 : decode cX5_init 48 = .ok (.new 9, 3) := by decide +kernel
theorem dX5_init_51 : decode cX5_init 51 = .ok (.dup, 1) := by decide +kernel
theorem dX5_init_52 : decode cX5_init 52 = .ok (.invokespecial 27, 3) := by decide +kernel
theorem dX5_init_55 : decode cX5_init 55 = .ok (.aastore, 1) := by decide +kernel
theorem dX5_init_56 : decode cX5_init 56 = .ok (.iinc 1 1, 3) := by decide +kernel
theorem dX5_init_59 : decode cX5_init 59 = .ok (.goto (-21), 3) := by decide +kernel
theorem dX5_init_62 : decode cX5_init 62 = .ok (.return_, 1) := by decide +kernel
theorem dX5_becomeLike_0 : decode cX5_becomeLike 0 = .ok (.iconst 0, 1) := by decide +kernel
theorem dX5_becomeLike_1 : decode cX5_becomeLike 1 = .ok (.istore_n 2, 1) := by decide +kernel
theorem dX5_becomeLike_2 : decode cX5_becomeLike 2 = .ok (.iload_n 2, 1) := by decide +kernel
theorem dX5_becomeLike_3 : decode cX5_becomeLike 3 = .ok (.aload_n 1, 1) := by decide +kernel
theorem dX5_becomeLike_4 : decode cX5_becomeLike 4 = .ok (.getfield 28, 3) := by decide +kernel
theorem dX5_becomeLike_7 : decode cX5_becomeLike 7 = .ok (.if_icmp .ge 24, 3) := by decide +kernel
theorem dX5_becomeLike_10 : decode cX5_becomeLike 10 = .ok (.aload_n 0, 1) := by decide +kernel
theorem dX5_becomeLike_11 : decode cX5_becomeLike 11 = .ok (.getfield 11, 3) := by decide +kernel
theorem dX5_becomeLike_14 : decode cX5_becomeLike 14 = .ok (.iload_n 2, 1) := by decide +kernel
theorem dX5_becomeLike_15 : decode cX5_becomeLike 15 = .ok (.aaload, 1) := by decide +kernel
theorem dX5_becomeLike_16 : decode cX5_becomeLike 16 = .ok (.aload_n 1, 1) := by decide +kernel
theorem dX5_becomeLike_17 : decode cX5_becomeLike 17 = .ok (.getfield 11, 3) := by decide +kernel
theorem dX5_becomeLike_20 : decode cX5_becomeLike 20 = .ok (.iload_n 2, 1) := by decide +kernel
theorem dX5_becomeLike_21 : decode cX5_becomeLike 21 = .ok (.aaload, 1) := by decide +kernel
theorem dX5_becomeLike_22 : decode cX5_becomeLike 22 = .ok (.invokevirtual 32, 3) := by decide +kernel
theorem dX5_becomeLike_25 : decode cX5_becomeLike 25 = .ok (.iinc 2 1, 3) := by decide +kernel
theorem dX5_becomeLike_28 : decode cX5_becomeLike 28 = .ok (.goto (-26), 3) := by decide +kernel
theorem dX5_becomeLike_31 : decode cX5_becomeLike 31 = .ok (.aload_n 1, 1) := by decide +kernel
theorem dX5_becomeLike_32 : decode cX5_becomeLike 32 = .ok (.getfield 17, 3) := by decide +kernel
theorem dX5_becomeLike_35 : decode cX5_becomeLike 35 = .ok (.iconst 0, 1) := by decide +kernel
theorem dX5_becomeLike_36 : decode cX5_becomeLike 36 = .ok (.aload_n 0, 1) := by decide +kernel
theorem dX5_becomeLike_37 : decode cX5_becomeLike 37 = .ok (.getfield 17, 3) := by decide +kernel
theorem dX5_becomeLike_40 : decode cX5_becomeLike 40 = .ok (.iconst 0, 1) := by decide +kernel
theorem dX5_becomeLike_41 : decode cX5_becomeLike 41 = .ok (.bipush 12, 2) := by decide +kernel
theorem dX5_becomeLike_43 : decode cX5_becomeLike 43 = .ok (.invokestatic 36, 3) := by decide +kernel
theorem dX5_becomeLike_46 : decode cX5_becomeLike 46 = .ok (.aload_n 1, 1) := by decide +kernel
theorem dX5_becomeLike_47 : decode cX5_becomeLike 47 = .ok (.getfield 21, 3) := by decide +kernel
theorem dX5_becomeLike_50 : decode cX5_becomeLike 50 = .ok (.iconst 0, 1) := by decide +kernel
theorem dX5_becomeLike_51 : decode cX5_becomeLike 51 = .ok (.aload_n 0, 1) := by decide +kernel
theorem dX5_becomeLike_52 : decode cX5_becomeLike 52 = .ok (.getfield 21, 3) := by decide +kernel
theorem dX5_becomeLike_55 : decode cX5_becomeLike 55 = .ok (.iconst 0, 1) := by decide +kernel
theorem dX5_becomeLike_56 : decode cX5_becomeLike 56 = .ok (.bipush 8, 2) := by decide +kernel
theorem dX5_becomeLike_58 : decode cX5_becomeLike 58 = .ok (.invokestatic 36, 3) := by decide +kernel
theorem dX5_becomeLike_61 : decode cX5_becomeLike 61 = .ok (.aload_n 1, 1) := by decide +kernel
theorem dX5_becomeLike_62 : decode cX5_becomeLike 62 = .ok (.getfield 24, 3) := by decide +kernel
theorem dX5_becomeLike_65 : decode cX5_becomeLike 65 = .ok (.iconst 0, 1) := by decide +kernel
theorem dX5_becomeLike_66 : decode cX5_becomeLike 66 = .ok (.aload_n 0, 1) := by decide +kernel
theorem dX5_becomeLike_67 : decode cX5_becomeLike 67 = .ok (.getfield 24, 3) := by decide +kernel
theorem dX5_becomeLike_70 : decode cX5_becomeLike 70 = .ok (.iconst 0, 1) := by decide +kernel
theorem dX5_becomeLike_71 : decode cX5_becomeLike 71 = .ok (.bipush 8, 2) := by decide +kernel
theorem dX5_becomeLike_73 : decode cX5_becomeLike 73 = .ok (.invokestatic 36, 3) := by decide +kernel
theorem dX5_becomeLike_76 : decode cX5_becomeLike 76 = .ok (.aload_n 0, 1) := by decide +kernel
theorem dX5_becomeLike_77 : decode cX5_becomeLike 77 = .ok (.aload_n 1, 1) := by decide +kernel
theorem dX5_becomeLike_78 : decode cX5_becomeLike 78 = .ok (.getfield 28, 3) := by decide +kernel
theorem dX5_becomeLike_81 : decode cX5_becomeLike 81 = .ok (.putfield 28, 3) := by decide +kernel
theorem dX5_becomeLike_84 : decode cX5_becomeLike 84 = .ok (.aload_n 0, 1) := by decide +kernel
theorem dX5_becomeLike_85 : decode cX5_becomeLike 85 = .ok (.aload_n 1, 1) := by decide +kernel
theorem dX5_becomeLike_86 : decode cX5_becomeLike 86 = .ok (.getfield 42, 3) := by decide +kernel
theorem dX5_becomeLike_89 : decode cX5_becomeLike 89 = .ok (.putfield 42, 3) := by decide +kernel
theorem dX5_becomeLike_92 : decode cX5_becomeLike 92 = .ok (.aload_n 0, 1) := by decide +kernel
theorem dX5_becomeLike_93 : decode cX5_becomeLike 93 = .ok (.aload_n 1, 1) := by decide +kernel
theorem dX5_becomeLike_94 : decode cX5_becomeLike 94 = .ok (.getfield 45, 3) := by decide +kernel
theorem dX5_becomeLike_97 : decode cX5_becomeLike 97 = .ok (.putfield 45, 3) := by decide +kernel
theorem dX5_becomeLike_100 : decode cX5_becomeLike 100 = .ok (.aload_n 0, 1) := by decide +kernel
theorem dX5_becomeLike_101 : decode cX5_becomeLike 101 = .ok (.aload_n 1, 1) := by decide +kernel
theorem dX5_becomeLike_102 : decode cX5_becomeLike 102 = .ok (.getfield 48, 3) := by decide +kernel
theorem dX5_becomeLike_105 : decode cX5_becomeLike 105 = .ok (.putfield 48, 3) := by decide +kernel
theorem dX5_becomeLike_108 : decode cX5_becomeLike 108 = .ok (.aload_n 0, 1) := by decide +kernel
theorem dX5_becomeLike_109 : decode cX5_becomeLike 109 = .ok (.aload_n 1, 1) := by decide +kernel
theorem dX5_becomeLike_110 : decode cX5_becomeLike 110 = .ok (.getfield 51, 3) := by decide +kernel
theorem dX5_becomeLike_113 : decode cX5_becomeLike 113 = .ok (.putfield 51, 3) := by decide +kernel
theorem dX5_becomeLike_116 : decode cX5_becomeLike 116 = .ok (.aload_n 0, 1) := by decide +kernel
theorem dX5_becomeLike_117 : decode cX5_becomeLike 117 = .ok (.aload_n 1, 1) := by decide +kernel
theorem dX5_becomeLike_118 : decode cX5_becomeLike 118 = .ok (.getfield 54, 3) := by decide +kernel
theorem dX5_becomeLike_121 : decode cX5_becomeLike 121 = .ok (.putfield 54, 3) := by decide +kernel
theorem dX5_becomeLike_124 : decode cX5_becomeLike 124 = .ok (.return_, 1) := by decide +kernel
theorem dX5_hasPerson_0 : decode cX5_hasPerson 0 = .ok (.iload_n 1, 1) := by decide +kernel
theorem dX5_hasPerson_1 : decode cX5_hasPerson 1 = .ok (.iconst 0, 1) := by decide +kernel
theorem dX5_hasPerson_2 : decode cX5_hasPerson 2 = .ok (.aload_n 0, 1) := by decide +kernel
theorem dX5_hasPerson_3 : decode cX5_hasPerson 3 = .ok (.getfield 28, 3) := by decide +kernel
theorem dX5_hasPerson_6 : decode cX5_hasPerson 6 = .ok (.iconst 1, 1) := by decide +kernel
theorem dX5_hasPerson_7 : decode cX5_hasPerson 7 = .ok (.isub, 1) := by decide +kernel
theorem dX5_hasPerson_8 : decode cX5_hasPerson 8 = .ok (.invokestatic 57, 3) := by decide +kernel
theorem dX5_hasPerson_11 : decode cX5_hasPerson 11 = .ok (.ireturn, 1) := by decide +kernel
theorem dX5_hasCoat_0 : decode cX5_hasCoat 0 = .ok (.aload_n 0, 1) := by decide +kernel
theorem dX5_hasCoat_1 : decode cX5_hasCoat 1 = .ok (.iload_n 1, 1) := by decide +kernel
theorem dX5_hasCoat_2 : decode cX5_hasCoat 2 = .ok (.invokevirtual 61, 3) := by decide +kernel
theorem dX5_hasCoat_5 : decode cX5_hasCoat 5 = .ok (.ifCond .eq 26, 3) := by decide +kernel
theorem dX5_hasCoat_8 : decode cX5_hasCoat 8 = .ok (.iload_n 2, 1) := by decide +kernel
theorem dX5_hasCoat_9 : decode cX5_hasCoat 9 = .ok (.iconst 0, 1) := by decide +kernel
theorem dX5_hasCoat_10 : decode cX5_hasCoat 10 = .ok (.aload_n 0, 1) := by decide +kernel
theorem dX5_hasCoat_11 : decode cX5_hasCoat 11 = .ok (.getfield 11, 3) := by decide +kernel
theorem dX5_hasCoat_14 : decode cX5_hasCoat 14 = .ok (.iload_n 1, 1) := by decide +kernel
theorem dX5_hasCoat_15 : decode cX5_hasCoat 15 = .ok (.aaload, 1) := by decide +kernel
theorem dX5_hasCoat_16 : decode cX5_hasCoat 16 = .ok (.getfield 65, 3) := by decide +kernel
theorem dX5_hasCoat_19 : decode cX5_hasCoat 19 = .ok (.iconst 1, 1) := by decide +kernel
theorem dX5_hasCoat_20 : decode cX5_hasCoat 20 = .ok (.isub, 1) := by decide +kernel
theorem dX5_hasCoat_21 : decode cX5_hasCoat 21 = .ok (.invokestatic 57, 3) := by decide +kernel
theorem dX5_hasCoat_24 : decode cX5_hasCoat 24 = .ok (.ifCond .eq 7, 3) := by decide +kernel
theorem dX5_hasCoat_27 : decode cX5_hasCoat 27 = .ok (.iconst 1, 1) := by decide +kernel
theorem dX5_hasCoat_28 : decode cX5_hasCoat 28 = .ok (.goto 4, 3) := by decide +kernel
theorem dX5_hasCoat_31 : decode cX5_hasCoat 31 = .ok (.iconst 0, 1) := by decide +kernel
theorem dX5_hasCoat_32 : decode cX5_hasCoat 32 = .ok (.ireturn, 1) := by decide +kernel
theorem dX5_coatsOfAll_0 : decode cX5_coatsOfAll 0 = .ok (.iconst 0, 1) := by decide +kernel
theorem dX5_coatsOfAll_1 : decode cX5_coatsOfAll 1 = .ok (.istore_n 1, 1) := by decide +kernel
theorem dX5_coatsOfAll_2 : decode cX5_coatsOfAll 2 = .ok (.iconst 0, 1) := by decide +kernel
theorem dX5_coatsOfAll_3 : decode cX5_coatsOfAll 3 = .ok (.istore_n 2, 1) := by decide +kernel
theorem dX5_coatsOfAll_4 : decode cX5_coatsOfAll 4 = .ok (.iload_n 2, 1) := by decide +kernel
theorem dX5_coatsOfAll_5 : decode cX5_coatsOfAll 5 = .ok (.aload_n 0, 1) := by decide +kernel
theorem dX5_coatsOfAll_6 : decode cX5_coatsOfAll 6 = .ok (.getfield 28, 3) := by decide +kernel
theorem dX5_coatsOfAll_9 : decode cX5_coatsOfAll 9 = .ok (.if_icmp .ge 21, 3) := by decide +kernel
theorem dX5_coatsOfAll_12 : decode cX5_coatsOfAll 12 = .ok (.iload_n 1, 1) := by decide +kernel
theorem dX5_coatsOfAll_13 : decode cX5_coatsOfAll 13 = .ok (.aload_n 0, 1) := by decide +kernel
theorem dX5_coatsOfAll_14 : decode cX5_coatsOfAll 14 = .ok (.getfield 11, 3) := by decide +kernel
theorem dX5_coatsOfAll_17 : decode cX5_coatsOfAll 17 = .ok (.iload_n 2, 1) := by decide +kernel
theorem dX5_coatsOfAll_18 : decode cX5_coatsOfAll 18 = .ok (.aaload, 1) := by decide +kernel
theorem dX5_coatsOfAll_19 : decode cX5_coatsOfAll 19 = .ok (.getfield 65, 3) := by decide +kernel
theorem dX5_coatsOfAll_22 : decode cX5_coatsOfAll 22 = .ok (.iadd, 1) := by decide +kernel
theorem dX5_coatsOfAll_23 : decode cX5_coatsOfAll 23 = .ok (.istore_n 1, 1) := by decide +kernel
theorem dX5_coatsOfAll_24 : decode cX5_coatsOfAll 24 = .ok (.iinc 2 1, 3) := by decide +kernel
theorem dX5_coatsOfAll_27 : decode cX5_coatsOfAll 27 = .ok (.goto (-23), 3) := by decide +kernel
theorem dX5_coatsOfAll_30 : decode cX5_coatsOfAll 30 = .ok (.iload_n 1, 1) := by decide +kernel
theorem dX5_coatsOfAll_31 : decode cX5_coatsOfAll 31 = .ok (.ireturn, 1) := by decide +kernel
theorem dX5_fallenOnes_0 : decode cX5_fallenOnes 0 = .ok (.iconst 0, 1) := by decide +kernel
theorem dX5_fallenOnes_1 : decode cX5_fallenOnes 1 = .ok (.istore_n 1, 1) := by decide +kernel
theorem dX5_fallenOnes_2 : decode cX5_fallenOnes 2 = .ok (.iconst 0, 1) := by decide +kernel
theorem dX5_fallenOnes_3 : decode cX5_fallenOnes 3 = .ok (.istore_n 2, 1) := by decide +kernel
theorem dX5_fallenOnes_4 : decode cX5_fallenOnes 4 = .ok (.iload_n 2, 1) := by decide +kernel
theorem dX5_fallenOnes_5 : decode cX5_fallenOnes 5 = .ok (.aload_n 0, 1) := by decide +kernel
theorem dX5_fallenOnes_6 : decode cX5_fallenOnes 6 = .ok (.getfield 28, 3) := by decide +kernel
theorem dX5_fallenOnes_9 : decode cX5_fallenOnes 9 = .ok (.if_icmp .ge 29, 3) := by decide +kernel
theorem dX5_fallenOnes_12 : decode cX5_fallenOnes 12 = .ok (.aload_n 0, 1) := by decide +kernel
theorem dX5_fallenOnes_13 : decode cX5_fallenOnes 13 = .ok (.getfield 11, 3) := by decide +kernel
theorem dX5_fallenOnes_16 : decode cX5_fallenOnes 16 = .ok (.iload_n 2, 1) := by decide +kernel
theorem dX5_fallenOnes_17 : decode cX5_fallenOnes 17 = .ok (.aaload, 1) := by decide +kernel
theorem dX5_fallenOnes_18 : decode cX5_fallenOnes 18 = .ok (.getfield 68, 3) := by decide +kernel
theorem dX5_fallenOnes_21 : decode cX5_fallenOnes 21 = .ok (.bipush (-4), 2) := by decide +kernel
theorem dX5_fallenOnes_23 : decode cX5_fallenOnes 23 = .ok (.if_icmp .eq 9, 3) := by decide +kernel
theorem dX5_fallenOnes_26 : decode cX5_fallenOnes 26 = .ok (.iload_n 1, 1) := by decide +kernel
theorem dX5_fallenOnes_27 : decode cX5_fallenOnes 27 = .ok (.iconst 1, 1) := by decide +kernel
theorem dX5_fallenOnes_28 : decode cX5_fallenOnes 28 = .ok (.iload_n 2, 1) := by decide +kernel
theorem dX5_fallenOnes_29 : decode cX5_fallenOnes 29 = .ok (.ishl, 1) := by decide +kernel
theorem dX5_fallenOnes_30 : decode cX5_fallenOnes 30 = .ok (.ior, 1) := by decide +kernel
theorem dX5_fallenOnes_31 : decode cX5_fallenOnes 31 = .ok (.istore_n 1, 1) := by decide +kernel
theorem dX5_fallenOnes_32 : decode cX5_fallenOnes 32 = .ok (.iinc 2 1, 3) := by decide +kernel
theorem dX5_fallenOnes_35 : decode cX5_fallenOnes 35 = .ok (.goto (-31), 3) := by decide +kernel
theorem dX5_fallenOnes_38 : decode cX5_fallenOnes 38 = .ok (.iload_n 1, 1) := by decide +kernel
theorem dX5_fallenOnes_39 : decode cX5_fallenOnes 39 = .ok (.ireturn, 1) := by decide +kernel
theorem dX5_heatOn_0 : decode cX5_heatOn 0 = .ok (.iload_n 1, 1) := by decide +kernel
theorem dX5_heatOn_1 : decode cX5_heatOn 1 = .ok (.bipush 30, 2) := by decide +kernel
theorem dX5_heatOn_3 : decode cX5_heatOn 3 = .ok (.idiv, 1) := by decide +kernel
theorem dX5_heatOn_4 : decode cX5_heatOn 4 = .ok (.istore_n 2, 1) := by decide +kernel
theorem dX5_heatOn_5 : decode cX5_heatOn 5 = .ok (.iload_n 2, 1) := by decide +kernel
theorem dX5_heatOn_6 : decode cX5_heatOn 6 = .ok (.iconst 0, 1) := by decide +kernel
theorem dX5_heatOn_7 : decode cX5_heatOn 7 = .ok (.bipush 11, 2) := by decide +kernel
theorem dX5_heatOn_9 : decode cX5_heatOn 9 = .ok (.invokestatic 57, 3) := by decide +kernel
theorem dX5_heatOn_12 : decode cX5_heatOn 12 = .ok (.ifCond .eq 12, 3) := by decide +kernel
theorem dX5_heatOn_15 : decode cX5_heatOn 15 = .ok (.aload_n 0, 1) := by decide +kernel
theorem dX5_heatOn_16 : decode cX5_heatOn 16 = .ok (.getfield 17, 3) := by decide +kernel
theorem dX5_heatOn_19 : decode cX5_heatOn 19 = .ok (.iload_n 2, 1) := by decide +kernel
theorem dX5_heatOn_20 : decode cX5_heatOn 20 = .ok (.iaload, 1) := by decide +kernel
theorem dX5_heatOn_21 : decode cX5_heatOn 21 = .ok (.goto 4, 3) := by decide +kernel
theorem dX5_heatOn_24 : decode cX5_heatOn 24 = .ok (.iconst 0, 1) := by decide +kernel
theorem dX5_heatOn_25 : decode cX5_heatOn 25 = .ok (.ireturn, 1) := by decide +kernel
theorem dX5_passNightsUntil_0 : decode cX5_passNightsUntil 0 = .ok (.aload_n 0, 1) := by decide +kernel
theorem dX5_passNightsUntil_1 : decode cX5_passNightsUntil 1 = .ok (.getfield 45, 3) := by decide +kernel
theorem dX5_passNightsUntil_4 : decode cX5_passNightsUntil 4 = .ok (.istore_n 2, 1) := by decide +kernel
theorem dX5_passNightsUntil_5 : decode cX5_passNightsUntil 5 = .ok (.iload_n 2, 1) := by decide +kernel
theorem dX5_passNightsUntil_6 : decode cX5_passNightsUntil 6 = .ok (.iload_n 1, 1) := by decide +kernel
theorem dX5_passNightsUntil_7 : decode cX5_passNightsUntil 7 = .ok (.if_icmp .ge 13, 3) := by decide +kernel
theorem dX5_passNightsUntil_10 : decode cX5_passNightsUntil 10 = .ok (.aload_n 0, 1) := by decide +kernel
theorem dX5_passNightsUntil_11 : decode cX5_passNightsUntil 11 = .ok (.invokevirtual 71, 3) := by decide +kernel
theorem dX5_passNightsUntil_14 : decode cX5_passNightsUntil 14 = .ok (.iinc 2 1, 3) := by decide +kernel
theorem dX5_passNightsUntil_17 : decode cX5_passNightsUntil 17 = .ok (.goto (-12), 3) := by decide +kernel
theorem dX5_passNightsUntil_20 : decode cX5_passNightsUntil 20 = .ok (.return_, 1) := by decide +kernel
theorem dX5_passNight_0 : decode cX5_passNight 0 = .ok (.aload_n 0, 1) := by decide +kernel
theorem dX5_passNight_1 : decode cX5_passNight 1 = .ok (.dup, 1) := by decide +kernel
theorem dX5_passNight_2 : decode cX5_passNight 2 = .ok (.getfield 45, 3) := by decide +kernel
theorem dX5_passNight_5 : decode cX5_passNight 5 = .ok (.iconst 1, 1) := by decide +kernel
theorem dX5_passNight_6 : decode cX5_passNight 6 = .ok (.iadd, 1) := by decide +kernel
theorem dX5_passNight_7 : decode cX5_passNight 7 = .ok (.putfield 45, 3) := by decide +kernel
theorem dX5_passNight_10 : decode cX5_passNight 10 = .ok (.iconst 0, 1) := by decide +kernel
theorem dX5_passNight_11 : decode cX5_passNight 11 = .ok (.istore_n 1, 1) := by decide +kernel
theorem dX5_passNight_12 : decode cX5_passNight 12 = .ok (.iload_n 1, 1) := by decide +kernel
theorem dX5_passNight_13 : decode cX5_passNight 13 = .ok (.aload_n 0, 1) := by decide +kernel
theorem dX5_passNight_14 : decode cX5_passNight 14 = .ok (.getfield 28, 3) := by decide +kernel
theorem dX5_passNight_17 : decode cX5_passNight 17 = .ok (.if_icmp .ge 51, 3) := by decide +kernel
theorem dX5_passNight_20 : decode cX5_passNight 20 = .ok (.aload_n 0, 1) := by decide +kernel
theorem dX5_passNight_21 : decode cX5_passNight 21 = .ok (.getfield 11, 3) := by decide +kernel
theorem dX5_passNight_24 : decode cX5_passNight 24 = .ok (.iload_n 1, 1) := by decide +kernel
theorem dX5_passNight_25 : decode cX5_passNight 25 = .ok (.aaload, 1) := by decide +kernel
theorem dX5_passNight_26 : decode cX5_passNight 26 = .ok (.invokevirtual 74, 3) := by decide +kernel
theorem dX5_passNight_29 : decode cX5_passNight 29 = .ok (.aload_n 0, 1) := by decide +kernel
theorem dX5_passNight_30 : decode cX5_passNight 30 = .ok (.getfield 11, 3) := by decide +kernel
theorem dX5_passNight_33 : decode cX5_passNight 33 = .ok (.iload_n 1, 1) := by decide +kernel
theorem dX5_passNight_34 : decode cX5_passNight 34 = .ok (.aaload, 1) := by decide +kernel
theorem dX5_passNight_35 : decode cX5_passNight 35 = .ok (.aload_n 0, 1) := by decide +kernel
theorem dX5_passNight_36 : decode cX5_passNight 36 = .ok (.aload_n 0, 1) := by decide +kernel
theorem dX5_passNight_37 : decode cX5_passNight 37 = .ok (.getfield 45, 3) := by decide +kernel
theorem dX5_passNight_40 : decode cX5_passNight 40 = .ok (.invokevirtual 75, 3) := by decide +kernel
theorem dX5_passNight_43 : decode cX5_passNight 43 = .ok (.invokevirtual 79, 3) := by decide +kernel
theorem dX5_passNight_46 : decode cX5_passNight 46 = .ok (.ifCond .eq 16, 3) := by decide +kernel
theorem dX5_passNight_49 : decode cX5_passNight 49 = .ok (.aload_n 0, 1) := by decide +kernel
theorem dX5_passNight_50 : decode cX5_passNight 50 = .ok (.getfield 11, 3) := by decide +kernel
theorem dX5_passNight_53 : decode cX5_passNight 53 = .ok (.iload_n 1, 1) := by decide +kernel
theorem dX5_passNight_54 : decode cX5_passNight 54 = .ok (.aaload, 1) := by decide +kernel
theorem dX5_passNight_55 : decode cX5_passNight 55 = .ok (.aload_n 0, 1) := by decide +kernel
theorem dX5_passNight_56 : decode cX5_passNight 56 = .ok (.getfield 45, 3) := by decide +kernel
theorem dX5_passNight_59 : decode cX5_passNight 59 = .ok (.invokevirtual 82, 3) := by decide +kernel
theorem dX5_passNight_62 : decode cX5_passNight 62 = .ok (.iinc 1 1, 3) := by decide +kernel
theorem dX5_passNight_65 : decode cX5_passNight 65 = .ok (.goto (-53), 3) := by decide +kernel
theorem dX5_passNight_68 : decode cX5_passNight 68 = .ok (.return_, 1) := by decide +kernel
theorem dX5_canBePaid_0 : decode cX5_canBePaid 0 = .ok (.iload_n 1, 1) := by decide +kernel
theorem dX5_canBePaid_1 : decode cX5_canBePaid 1 = .ok (.aload_n 0, 1) := by decide +kernel
theorem dX5_canBePaid_2 : decode cX5_canBePaid 2 = .ok (.getfield 45, 3) := by decide +kernel
theorem dX5_canBePaid_5 : decode cX5_canBePaid 5 = .ok (.sipush 359, 3) := by decide +kernel
theorem dX5_canBePaid_8 : decode cX5_canBePaid 8 = .ok (.invokestatic 57, 3) := by decide +kernel
theorem dX5_canBePaid_11 : decode cX5_canBePaid 11 = .ok (.ifCond .eq 12, 3) := by decide +kernel
theorem dX5_canBePaid_14 : decode cX5_canBePaid 14 = .ok (.aload_n 0, 1) := by decide +kernel
theorem dX5_canBePaid_15 : decode cX5_canBePaid 15 = .ok (.iload_n 2, 1) := by decide +kernel
theorem dX5_canBePaid_16 : decode cX5_canBePaid 16 = .ok (.iload_n 3, 1) := by decide +kernel
theorem dX5_canBePaid_17 : decode cX5_canBePaid 17 = .ok (.invokevirtual 86, 3) := by decide +kernel
theorem dX5_canBePaid_20 : decode cX5_canBePaid 20 = .ok (.ifCond .ne 5, 3) := by decide +kernel
theorem dX5_canBePaid_23 : decode cX5_canBePaid 23 = .ok (.iconst 0, 1) := by decide +kernel
theorem dX5_canBePaid_24 : decode cX5_canBePaid 24 = .ok (.ireturn, 1) := by decide +kernel
theorem dX5_canBePaid_25 : decode cX5_canBePaid 25 = .ok (.aload_n 0, 1) := by decide +kernel
theorem dX5_canBePaid_26 : decode cX5_canBePaid 26 = .ok (.iload_n 1, 1) := by decide +kernel
theorem dX5_canBePaid_27 : decode cX5_canBePaid 27 = .ok (.invokevirtual 90, 3) := by decide +kernel
theorem dX5_canBePaid_30 : decode cX5_canBePaid 30 = .ok (.aload_n 0, 1) := by decide +kernel
theorem dX5_canBePaid_31 : decode cX5_canBePaid 31 = .ok (.getfield 11, 3) := by decide +kernel
theorem dX5_canBePaid_34 : decode cX5_canBePaid 34 = .ok (.iload_n 2, 1) := by decide +kernel
theorem dX5_canBePaid_35 : decode cX5_canBePaid 35 = .ok (.aaload, 1) := by decide +kernel
theorem dX5_canBePaid_36 : decode cX5_canBePaid 36 = .ok (.astore 4, 2) := by decide +kernel
theorem dX5_canBePaid_38 : decode cX5_canBePaid 38 = .ok (.aload_n 0, 1) := by decide +kernel
theorem dX5_canBePaid_39 : decode cX5_canBePaid 39 = .ok (.getfield 48, 3) := by decide +kernel
theorem dX5_canBePaid_42 : decode cX5_canBePaid 42 = .ok (.aload 4, 2) := by decide +kernel
theorem dX5_canBePaid_44 : decode cX5_canBePaid 44 = .ok (.invokevirtual 93, 3) := by decide +kernel
theorem dX5_canBePaid_47 : decode cX5_canBePaid 47 = .ok (.iload_n 3, 1) := by decide +kernel
theorem dX5_canBePaid_48 : decode cX5_canBePaid 48 = .ok (.invokestatic 97, 3) := by decide +kernel
theorem dX5_canBePaid_51 : decode cX5_canBePaid 51 = .ok (.ifCond .eq 18, 3) := by decide +kernel
theorem dX5_canBePaid_54 : decode cX5_canBePaid 54 = .ok (.aload 4, 2) := by decide +kernel
theorem dX5_canBePaid_56 : decode cX5_canBePaid 56 = .ok (.getfield 100, 3) := by decide +kernel
theorem dX5_canBePaid_59 : decode cX5_canBePaid 59 = .ok (.aload 4, 2) := by decide +kernel
theorem dX5_canBePaid_61 : decode cX5_canBePaid 61 = .ok (.getfield 103, 3) := by decide +kernel
theorem dX5_canBePaid_64 : decode cX5_canBePaid 64 = .ok (.iload_n 3, 1) := by decide +kernel
theorem dX5_canBePaid_65 : decode cX5_canBePaid 65 = .ok (.iaload, 1) := by decide +kernel
theorem dX5_canBePaid_66 : decode cX5_canBePaid 66 = .ok (.if_icmp .ge 5, 3) := by decide +kernel
theorem dX5_canBePaid_69 : decode cX5_canBePaid 69 = .ok (.iconst 0, 1) := by decide +kernel
theorem dX5_canBePaid_70 : decode cX5_canBePaid 70 = .ok (.ireturn, 1) := by decide +kernel
theorem dX5_canBePaid_71 : decode cX5_canBePaid 71 = .ok (.aload 4, 2) := by decide +kernel
theorem dX5_canBePaid_73 : decode cX5_canBePaid 73 = .ok (.iload_n 3, 1) := by decide +kernel
theorem dX5_canBePaid_74 : decode cX5_canBePaid 74 = .ok (.invokevirtual 106, 3) := by decide +kernel
theorem dX5_canBePaid_77 : decode cX5_canBePaid 77 = .ok (.iconst 1, 1) := by decide +kernel
theorem dX5_canBePaid_78 : decode cX5_canBePaid 78 = .ok (.ireturn, 1) := by decide +kernel
theorem dX5_isSetOfWares_0 : decode cX5_isSetOfWares 0 = .ok (.iconst 0, 1) := by decide +kernel
theorem dX5_isSetOfWares_1 : decode cX5_isSetOfWares 1 = .ok (.istore 4, 2) := by decide +kernel
theorem dX5_isSetOfWares_3 : decode cX5_isSetOfWares 3 = .ok (.iconst 0, 1) := by decide +kernel
theorem dX5_isSetOfWares_4 : decode cX5_isSetOfWares 4 = .ok (.istore 5, 2) := by decide +kernel
theorem dX5_isSetOfWares_6 : decode cX5_isSetOfWares 6 = .ok (.iconst 0, 1) := by decide +kernel
theorem dX5_isSetOfWares_7 : decode cX5_isSetOfWares 7 = .ok (.istore 6, 2) := by decide +kernel
theorem dX5_isSetOfWares_9 : decode cX5_isSetOfWares 9 = .ok (.iload 6, 2) := by decide +kernel
theorem dX5_isSetOfWares_11 : decode cX5_isSetOfWares 11 = .ok (.aload_n 0, 1) := by decide +kernel
theorem dX5_isSetOfWares_12 : decode cX5_isSetOfWares 12 = .ok (.getfield 42, 3) := by decide +kernel
theorem dX5_isSetOfWares_15 : decode cX5_isSetOfWares 15 = .ok (.if_icmp .ge 42, 3) := by decide +kernel
theorem dX5_isSetOfWares_18 : decode cX5_isSetOfWares 18 = .ok (.iload_n 1, 1) := by decide +kernel
theorem dX5_isSetOfWares_19 : decode cX5_isSetOfWares 19 = .ok (.iload 6, 2) := by decide +kernel
theorem dX5_isSetOfWares_21 : decode cX5_isSetOfWares 21 = .ok (.invokestatic 109, 3) := by decide +kernel
theorem dX5_isSetOfWares_24 : decode cX5_isSetOfWares 24 = .ok (.ifCond .eq 27, 3) := by decide +kernel
theorem dX5_isSetOfWares_27 : decode cX5_isSetOfWares 27 = .ok (.iload 4, 2) := by decide +kernel
theorem dX5_isSetOfWares_29 : decode cX5_isSetOfWares 29 = .ok (.aload_n 0, 1) := by decide +kernel
theorem dX5_isSetOfWares_30 : decode cX5_isSetOfWares 30 = .ok (.getfield 24, 3) := by decide +kernel
theorem dX5_isSetOfWares_33 : decode cX5_isSetOfWares 33 = .ok (.iload 6, 2) := by decide +kernel
theorem dX5_isSetOfWares_35 : decode cX5_isSetOfWares 35 = .ok (.iaload, 1) := by decide +kernel
theorem dX5_isSetOfWares_36 : decode cX5_isSetOfWares 36 = .ok (.iadd, 1) := by decide +kernel
theorem dX5_isSetOfWares_37 : decode cX5_isSetOfWares 37 = .ok (.istore 4, 2) := by decide +kernel
theorem dX5_isSetOfWares_39 : decode cX5_isSetOfWares 39 = .ok (.iload 5, 2) := by decide +kernel
theorem dX5_isSetOfWares_41 : decode cX5_isSetOfWares 41 = .ok (.aload_n 0, 1) := by decide +kernel
theorem dX5_isSetOfWares_42 : decode cX5_isSetOfWares 42 = .ok (.getfield 21, 3) := by decide +kernel
theorem dX5_isSetOfWares_45 : decode cX5_isSetOfWares 45 = .ok (.iload 6, 2) := by decide +kernel
theorem dX5_isSetOfWares_47 : decode cX5_isSetOfWares 47 = .ok (.iaload, 1) := by decide +kernel
theorem dX5_isSetOfWares_48 : decode cX5_isSetOfWares 48 = .ok (.iadd, 1) := by decide +kernel
theorem dX5_isSetOfWares_49 : decode cX5_isSetOfWares 49 = .ok (.istore 5, 2) := by decide +kernel
theorem dX5_isSetOfWares_51 : decode cX5_isSetOfWares 51 = .ok (.iinc 6 1, 3) := by decide +kernel
theorem dX5_isSetOfWares_54 : decode cX5_isSetOfWares 54 = .ok (.goto (-45), 3) := by decide +kernel
theorem dX5_isSetOfWares_57 : decode cX5_isSetOfWares 57 = .ok (.iload 4, 2) := by decide +kernel
theorem dX5_isSetOfWares_59 : decode cX5_isSetOfWares 59 = .ok (.iload_n 2, 1) := by decide +kernel
theorem dX5_isSetOfWares_60 : decode cX5_isSetOfWares 60 = .ok (.if_icmp .ne 13, 3) := by decide +kernel
theorem dX5_isSetOfWares_63 : decode cX5_isSetOfWares 63 = .ok (.iload 5, 2) := by decide +kernel
theorem dX5_isSetOfWares_65 : decode cX5_isSetOfWares 65 = .ok (.iload_n 3, 1) := by decide +kernel
theorem dX5_isSetOfWares_66 : decode cX5_isSetOfWares 66 = .ok (.if_icmp .ne 7, 3) := by decide +kernel
theorem dX5_isSetOfWares_69 : decode cX5_isSetOfWares 69 = .ok (.iconst 1, 1) := by decide +kernel
theorem dX5_isSetOfWares_70 : decode cX5_isSetOfWares 70 = .ok (.goto 4, 3) := by decide +kernel
theorem dX5_isSetOfWares_73 : decode cX5_isSetOfWares 73 = .ok (.iconst 0, 1) := by decide +kernel
theorem dX5_isSetOfWares_74 : decode cX5_isSetOfWares 74 = .ok (.ireturn, 1) := by decide +kernel
