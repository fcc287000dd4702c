theorem dX6_person_0 : decode cX6_person 0 = .ok (.iload_n 1, 1) := by decide +kernel
theorem dX6_person_1 : decode cX6_person 1 = .ok (.iconst 0, 1) := by decide +kernel
theorem dX6_person_2 : decode cX6_person 2 = .ok (.sipush 9999, 3) := by decide +kernel
theorem dX6_person_5 : decode cX6_person 5 = .ok (.invokestatic 61, 3) := by decide +kernel
theorem dX6_person_8 : decode cX6_person 8 = .ok (.ifCond .eq 23, 3) := by decide +kernel
theorem dX6_person_11 : decode cX6_person 11 = .ok (.iload_n 2, 1) := by decide +kernel
theorem dX6_person_12 : decode cX6_person 12 = .ok (.iconst 0, 1) := by decide +kernel
theorem dX6_person_13 : decode cX6_person 13 = .ok (.bipush 99, 2) := by decide +kernel
theorem dX6_person_15 : decode cX6_person 15 = .ok (.invokestatic 61, 3) := by decide +kernel
theorem dX6_person_18 : decode cX6_person 18 = .ok (.ifCond .eq 13, 3) := by decide +kernel
theorem dX6_person_21 : decode cX6_person 21 = .ok (.iload_n 3, 1) := by decide +kernel
theorem dX6_person_22 : decode cX6_person 22 = .ok (.iconst 1, 1) := by decide +kernel
theorem dX6_person_23 : decode cX6_person 23 = .ok (.bipush 60, 2) := by decide +kernel
theorem dX6_person_25 : decode cX6_person 25 = .ok (.invokestatic 61, 3) := by decide +kernel
theorem dX6_person_28 : decode cX6_person 28 = .ok (.ifCond .ne 5, 3) := by decide +kernel
theorem dX6_person_31 : decode cX6_person 31 = .ok (.iconst (-1), 1) := by decide +kernel
theorem dX6_person_32 : decode cX6_person 32 = .ok (.ireturn, 1) := by decide +kernel
theorem dX6_person_33 : decode cX6_person 33 = .ok (.aload_n 0, 1) := by decide +kernel
theorem dX6_person_34 : decode cX6_person 34 = .ok (.getfield 10, 3) := by decide +kernel
theorem dX6_person_37 : decode cX6_person 37 = .ok (.getfield 65, 3) := by decide +kernel
theorem dX6_person_40 : decode cX6_person 40 = .ok (.iconst 5, 1) := by decide +kernel
theorem dX6_person_41 : decode cX6_person 41 = .ok (.if_icmp .lt 6, 3) := by decide +kernel
theorem dX6_person_44 : decode cX6_person 44 = .ok (.bipush (-3), 2) := by decide +kernel
theorem dX6_person_46 : decode cX6_person 46 = .ok (.ireturn, 1) := by decide +kernel
theorem dX6_person_47 : decode cX6_person 47 = .ok (.aload_n 0, 1) := by decide +kernel
theorem dX6_person_48 : decode cX6_person 48 = .ok (.getfield 10, 3) := by decide +kernel
theorem dX6_person_51 : decode cX6_person 51 = .ok (.getfield 69, 3) := by decide +kernel
theorem dX6_person_54 : decode cX6_person 54 = .ok (.aload_n 0, 1) := by decide +kernel
theorem dX6_person_55 : decode cX6_person 55 = .ok (.getfield 10, 3) := by decide +kernel
theorem dX6_person_58 : decode cX6_person 58 = .ok (.getfield 65, 3) := by decide +kernel
theorem dX6_person_61 : decode cX6_person 61 = .ok (.aaload, 1) := by decide +kernel
theorem dX6_person_62 : decode cX6_person 62 = .ok (.iload_n 1, 1) := by decide +kernel
theorem dX6_person_63 : decode cX6_person 63 = .ok (.iload_n 2, 1) := by decide +kernel
theorem dX6_person_64 : decode cX6_person 64 = .ok (.iload_n 3, 1) := by decide +kernel
theorem dX6_person_65 : decode cX6_person 65 = .ok (.invokevirtual 73, 3) := by decide +kernel
theorem dX6_person_68 : decode cX6_person 68 = .ok (.aload_n 0, 1) := by decide +kernel
theorem dX6_person_69 : decode cX6_person 69 = .ok (.getfield 10, 3) := by decide +kernel
theorem dX6_person_72 : decode cX6_person 72 = .ok (.dup, 1) := by decide +kernel
theorem dX6_person_73 : decode cX6_person 73 = .ok (.getfield 65, 3) := by decide +kernel
theorem dX6_person_76 : decode cX6_person 76 = .ok (.iconst 1, 1) := by decide +kernel
theorem dX6_person_77 : decode cX6_person 77 = .ok (.iadd, 1) := by decide +kernel
theorem dX6_person_78 : decode cX6_person 78 = .ok (.putfield 65, 3) := by decide +kernel
theorem dX6_person_81 : decode cX6_person 81 = .ok (.aload_n 0, 1) := by decide +kernel
theorem dX6_person_82 : decode cX6_person 82 = .ok (.getfield 10, 3) := by decide +kernel
theorem dX6_person_85 : decode cX6_person 85 = .ok (.getfield 65, 3) := by decide +kernel
theorem dX6_person_88 : decode cX6_person 88 = .ok (.iconst 1, 1) := by decide +kernel
theorem dX6_person_89 : decode cX6_person 89 = .ok (.isub, 1) := by decide +kernel
theorem dX6_person_90 : decode cX6_person 90 = .ok (.ireturn, 1) := by decide +kernel
theorem dX6_of_0 : decode cX6_of 0 = .ok (.aload_n 0, 1) := by decide +kernel
theorem dX6_of_1 : decode cX6_of 1 = .ok (.getfield 10, 3) := by decide +kernel
theorem dX6_of_4 : decode cX6_of 4 = .ok (.iload_n 1, 1) := by decide +kernel
theorem dX6_of_5 : decode cX6_of 5 = .ok (.invokevirtual 77, 3) := by decide +kernel
theorem dX6_of_8 : decode cX6_of 8 = .ok (.ifCond .ne 5, 3) := by decide +kernel
theorem dX6_of_11 : decode cX6_of 11 = .ok (.iconst (-1), 1) := by decide +kernel
theorem dX6_of_12 : decode cX6_of 12 = .ok (.ireturn, 1) := by decide +kernel
theorem dX6_of_13 : decode cX6_of 13 = .ok (.aload_n 0, 1) := by decide +kernel
theorem dX6_of_14 : decode cX6_of 14 = .ok (.getfield 10, 3) := by decide +kernel
theorem dX6_of_17 : decode cX6_of 17 = .ok (.getfield 69, 3) := by decide +kernel
theorem dX6_of_20 : decode cX6_of 20 = .ok (.iload_n 1, 1) := by decide +kernel
theorem dX6_of_21 : decode cX6_of 21 = .ok (.aaload, 1) := by decide +kernel
theorem dX6_of_22 : decode cX6_of 22 = .ok (.astore_n 3, 1) := by decide +kernel
theorem dX6_of_23 : decode cX6_of 23 = .ok (.iload_n 2, 1) := by decide +kernel
theorem dX6_of_24 : decode cX6_of 24 = .ok (.tableswitch 84 0 6 #[44, 49, 54, 59, 64, 69, 79], 44) := by decide +kernel
theorem dX6_of_68 : decode cX6_of 68 = .ok (.aload_n 3, 1) := by decide +kernel
theorem dX6_of_69 : decode cX6_of 69 = .ok (.getfield 81, 3) := by decide +kernel
theorem dX6_of_72 : decode cX6_of 72 = .ok (.ireturn, 1) := by decide +kernel
theorem dX6_of_73 : decode cX6_of 73 = .ok (.aload_n 3, 1) := by decide +kernel
theorem dX6_of_74 : decode cX6_of 74 = .ok (.getfield 84, 3) := by decide +kernel
theorem dX6_of_77 : decode cX6_of 77 = .ok (.ireturn, 1) := by decide +kernel
theorem dX6_of_78 : decode cX6_of 78 = .ok (.aload_n 3, 1) := by decide +kernel
theorem dX6_of_79 : decode cX6_of 79 = .ok (.getfield 87, 3) := by decide +kernel
theorem dX6_of_82 : decode cX6_of 82 = .ok (.ireturn, 1) := by decide +kernel
theorem dX6_of_83 : decode cX6_of 83 = .ok (.aload_n 3, 1) := by decide +kernel
theorem dX6_of_84 : decode cX6_of 84 = .ok (.getfield 90, 3) := by decide +kernel
theorem dX6_of_87 : decode cX6_of 87 = .ok (.ireturn, 1) := by decide +kernel
theorem dX6_of_88 : decode cX6_of 88 = .ok (.aload_n 3, 1) := by decide +kernel
theorem dX6_of_89 : decode cX6_of 89 = .ok (.invokevirtual 93, 3) := by decide +kernel
theorem dX6_of_92 : decode cX6_of 92 = .ok (.ireturn, 1) := by decide +kernel
theorem dX6_of_93 : decode cX6_of 93 = .ok (.aload_n 3, 1) := by decide +kernel
theorem dX6_of_94 : decode cX6_of 94 = .ok (.invokevirtual 97, 3) := by decide +kernel
theorem dX6_of_97 : decode cX6_of 97 = .ok (.ldc 100, 2) := by decide +kernel
theorem dX6_of_99 : decode cX6_of 99 = .ok (.invokestatic 101, 3) := by decide +kernel
theorem dX6_of_102 : decode cX6_of 102 = .ok (.ireturn, 1) := by decide +kernel
theorem dX6_of_103 : decode cX6_of 103 = .ok (.aload_n 3, 1) := by decide +kernel
theorem dX6_of_104 : decode cX6_of 104 = .ok (.getfield 107, 3) := by decide +kernel
theorem dX6_of_107 : decode cX6_of 107 = .ok (.ireturn, 1) := by decide +kernel
theorem dX6_of_108 : decode cX6_of 108 = .ok (.iconst (-1), 1) := by decide +kernel
theorem dX6_of_109 : decode cX6_of 109 = .ok (.ireturn, 1) := by decide +kernel
theorem dX6_coat_0 : decode cX6_coat 0 = .ok (.aload_n 0, 1) := by decide +kernel
theorem dX6_coat_1 : decode cX6_coat 1 = .ok (.getfield 10, 3) := by decide +kernel
theorem dX6_coat_4 : decode cX6_coat 4 = .ok (.iload_n 1, 1) := by decide +kernel
theorem dX6_coat_5 : decode cX6_coat 5 = .ok (.iload_n 2, 1) := by decide +kernel
theorem dX6_coat_6 : decode cX6_coat 6 = .ok (.invokevirtual 110, 3) := by decide +kernel
theorem dX6_coat_9 : decode cX6_coat 9 = .ok (.ifCond .ne 5, 3) := by decide +kernel
theorem dX6_coat_12 : decode cX6_coat 12 = .ok (.iconst (-1), 1) := by decide +kernel
theorem dX6_coat_13 : decode cX6_coat 13 = .ok (.ireturn, 1) := by decide +kernel
theorem dX6_coat_14 : decode cX6_coat 14 = .ok (.aload_n 0, 1) := by decide +kernel
theorem dX6_coat_15 : decode cX6_coat 15 = .ok (.getfield 10, 3) := by decide +kernel
theorem dX6_coat_18 : decode cX6_coat 18 = .ok (.getfield 69, 3) := by decide +kernel
theorem dX6_coat_21 : decode cX6_coat 21 = .ok (.iload_n 1, 1) := by decide +kernel
theorem dX6_coat_22 : decode cX6_coat 22 = .ok (.aaload, 1) := by decide +kernel
theorem dX6_coat_23 : decode cX6_coat 23 = .ok (.astore 4, 2) := by decide +kernel
theorem dX6_coat_25 : decode cX6_coat 25 = .ok (.iload_n 3, 1) := by decide +kernel
theorem dX6_coat_26 : decode cX6_coat 26 = .ok (.tableswitch 62 0 3 #[30, 38, 46, 54], 30) := by decide +kernel
theorem dX6_coat_56 : decode cX6_coat 56 = .ok (.aload 4, 2) := by decide +kernel
theorem dX6_coat_58 : decode cX6_coat 58 = .ok (.getfield 114, 3) := by decide +kernel
theorem dX6_coat_61 : decode cX6_coat 61 = .ok (.iload_n 2, 1) := by decide +kernel
theorem dX6_coat_62 : decode cX6_coat 62 = .ok (.iaload, 1) := by decide +kernel
theorem dX6_coat_63 : decode cX6_coat 63 = .ok (.ireturn, 1) := by decide +kernel
theorem dX6_coat_64 : decode cX6_coat 64 = .ok (.aload 4, 2) := by decide +kernel
theorem dX6_coat_66 : decode cX6_coat 66 = .ok (.getfield 118, 3) := by decide +kernel
theorem dX6_coat_69 : decode cX6_coat 69 = .ok (.iload_n 2, 1) := by decide +kernel
theorem dX6_coat_70 : decode cX6_coat 70 = .ok (.iaload, 1) := by decide +kernel
theorem dX6_coat_71 : decode cX6_coat 71 = .ok (.ireturn, 1) := by decide +kernel
theorem dX6_coat_72 : decode cX6_coat 72 = .ok (.aload 4, 2) := by decide +kernel
theorem dX6_coat_74 : decode cX6_coat 74 = .ok (.getfield 121, 3) := by decide +kernel
theorem dX6_coat_77 : decode cX6_coat 77 = .ok (.iload_n 2, 1) := by decide +kernel
theorem dX6_coat_78 : decode cX6_coat 78 = .ok (.iaload, 1) := by decide +kernel
theorem dX6_coat_79 : decode cX6_coat 79 = .ok (.ireturn, 1) := by decide +kernel
theorem dX6_coat_80 : decode cX6_coat 80 = .ok (.aload 4, 2) := by decide +kernel
theorem dX6_coat_82 : decode cX6_coat 82 = .ok (.getfield 124, 3) := by decide +kernel
theorem dX6_coat_85 : decode cX6_coat 85 = .ok (.iload_n 2, 1) := by decide +kernel
theorem dX6_coat_86 : decode cX6_coat 86 = .ok (.iaload, 1) := by decide +kernel
theorem dX6_coat_87 : decode cX6_coat 87 = .ok (.ireturn, 1) := by decide +kernel
theorem dX6_coat_88 : decode cX6_coat 88 = .ok (.iconst (-1), 1) := by decide +kernel
theorem dX6_coat_89 : decode cX6_coat 89 = .ok (.ireturn, 1) := by decide +kernel
theorem dX6_tax_0 : decode cX6_tax 0 = .ok (.aload_n 0, 1) := by decide +kernel
theorem dX6_tax_1 : decode cX6_tax 1 = .ok (.getfield 10, 3) := by decide +kernel
theorem dX6_tax_4 : decode cX6_tax 4 = .ok (.iload_n 1, 1) := by decide +kernel
theorem dX6_tax_5 : decode cX6_tax 5 = .ok (.invokevirtual 77, 3) := by decide +kernel
theorem dX6_tax_8 : decode cX6_tax 8 = .ok (.ifCond .eq 20, 3) := by decide +kernel
theorem dX6_tax_11 : decode cX6_tax 11 = .ok (.iload_n 2, 1) := by decide +kernel
theorem dX6_tax_12 : decode cX6_tax 12 = .ok (.invokestatic 127, 3) := by decide +kernel
theorem dX6_tax_15 : decode cX6_tax 15 = .ok (.ifCond .eq 13, 3) := by decide +kernel
theorem dX6_tax_18 : decode cX6_tax 18 = .ok (.iload_n 3, 1) := by decide +kernel
theorem dX6_tax_19 : decode cX6_tax 19 = .ok (.iconst 0, 1) := by decide +kernel
theorem dX6_tax_20 : decode cX6_tax 20 = .ok (.bipush 9, 2) := by decide +kernel
theorem dX6_tax_22 : decode cX6_tax 22 = .ok (.invokestatic 61, 3) := by decide +kernel
theorem dX6_tax_25 : decode cX6_tax 25 = .ok (.ifCond .ne 5, 3) := by decide +kernel
theorem dX6_tax_28 : decode cX6_tax 28 = .ok (.iconst (-1), 1) := by decide +kernel
theorem dX6_tax_29 : decode cX6_tax 29 = .ok (.ireturn, 1) := by decide +kernel
theorem dX6_tax_30 : decode cX6_tax 30 = .ok (.aload_n 0, 1) := by decide +kernel
theorem dX6_tax_31 : decode cX6_tax 31 = .ok (.getfield 10, 3) := by decide +kernel
theorem dX6_tax_34 : decode cX6_tax 34 = .ok (.getfield 69, 3) := by decide +kernel
theorem dX6_tax_37 : decode cX6_tax 37 = .ok (.iload_n 1, 1) := by decide +kernel
theorem dX6_tax_38 : decode cX6_tax 38 = .ok (.aaload, 1) := by decide +kernel
theorem dX6_tax_39 : decode cX6_tax 39 = .ok (.getfield 130, 3) := by decide +kernel
theorem dX6_tax_42 : decode cX6_tax 42 = .ok (.astore 4, 2) := by decide +kernel
theorem dX6_tax_44 : decode cX6_tax 44 = .ok (.aload 4, 2) := by decide +kernel
theorem dX6_tax_46 : decode cX6_tax 46 = .ok (.iload_n 2, 1) := by decide +kernel
theorem dX6_tax_47 : decode cX6_tax 47 = .ok (.iaload, 1) := by decide +kernel
theorem dX6_tax_48 : decode cX6_tax 48 = .ok (.istore 5, 2) := by decide +kernel
theorem dX6_tax_50 : decode cX6_tax 50 = .ok (.aload 4, 2) := by decide +kernel
theorem dX6_tax_52 : decode cX6_tax 52 = .ok (.iload_n 2, 1) := by decide +kernel
theorem dX6_tax_53 : decode cX6_tax 53 = .ok (.iload_n 3, 1) := by decide +kernel
theorem dX6_tax_54 : decode cX6_tax 54 = .ok (.iastore, 1) := by decide +kernel
theorem dX6_tax_55 : decode cX6_tax 55 = .ok (.iload 5, 2) := by decide +kernel
theorem dX6_tax_57 : decode cX6_tax 57 = .ok (.ireturn, 1) := by decide +kernel
theorem dX6_heat_0 : decode cX6_heat 0 = .ok (.iload_n 1, 1) := by decide +kernel
theorem dX6_heat_1 : decode cX6_heat 1 = .ok (.iconst 0, 1) := by decide +kernel
theorem dX6_heat_2 : decode cX6_heat 2 = .ok (.bipush 11, 2) := by decide +kernel
theorem dX6_heat_4 : decode cX6_heat 4 = .ok (.invokestatic 61, 3) := by decide +kernel
theorem dX6_heat_7 : decode cX6_heat 7 = .ok (.ifCond .eq 13, 3) := by decide +kernel
theorem dX6_heat_10 : decode cX6_heat 10 = .ok (.iload_n 2, 1) := by decide +kernel
theorem dX6_heat_11 : decode cX6_heat 11 = .ok (.iconst 0, 1) := by decide +kernel
theorem dX6_heat_12 : decode cX6_heat 12 = .ok (.bipush 40, 2) := by decide +kernel
theorem dX6_heat_14 : decode cX6_heat 14 = .ok (.invokestatic 61, 3) := by decide +kernel
theorem dX6_heat_17 : decode cX6_heat 17 = .ok (.ifCond .ne 5, 3) := by decide +kernel
theorem dX6_heat_20 : decode cX6_heat 20 = .ok (.iconst (-1), 1) := by decide +kernel
theorem dX6_heat_21 : decode cX6_heat 21 = .ok (.ireturn, 1) := by decide +kernel
theorem dX6_heat_22 : decode cX6_heat 22 = .ok (.aload_n 0, 1) := by decide +kernel
theorem dX6_heat_23 : decode cX6_heat 23 = .ok (.getfield 10, 3) := by decide +kernel
theorem dX6_heat_26 : decode cX6_heat 26 = .ok (.getfield 133, 3) := by decide +kernel
theorem dX6_heat_29 : decode cX6_heat 29 = .ok (.iload_n 1, 1) := by decide +kernel
theorem dX6_heat_30 : decode cX6_heat 30 = .ok (.iaload, 1) := by decide +kernel
theorem dX6_heat_31 : decode cX6_heat 31 = .ok (.istore_n 3, 1) := by decide +kernel
theorem dX6_heat_32 : decode cX6_heat 32 = .ok (.aload_n 0, 1) := by decide +kernel
theorem dX6_heat_33 : decode cX6_heat 33 = .ok (.getfield 10, 3) := by decide +kernel
theorem dX6_heat_36 : decode cX6_heat 36 = .ok (.getfield 133, 3) := by decide +kernel
theorem dX6_heat_39 : decode cX6_heat 39 = .ok (.iload_n 1, 1) := by decide +kernel
theorem dX6_heat_40 : decode cX6_heat 40 = .ok (.iload_n 2, 1) := by decide +kernel
theorem dX6_heat_41 : decode cX6_heat 41 = .ok (.iastore, 1) := by decide +kernel
theorem dX6_heat_42 : decode cX6_heat 42 = .ok (.iload_n 3, 1) := by decide +kernel
theorem dX6_heat_43 : decode cX6_heat 43 = .ok (.ireturn, 1) := by decide +kernel
theorem dX6_rule_0 : decode cX6_rule 0 = .ok (.iload_n 1, 1) := by decide +kernel
theorem dX6_rule_1 : decode cX6_rule 1 = .ok (.ifCond .ne 30, 3) := by decide +kernel
theorem dX6_rule_4 : decode cX6_rule 4 = .ok (.iload_n 2, 1) := by decide +kernel
theorem dX6_rule_5 : decode cX6_rule 5 = .ok (.iconst 0, 1) := by decide +kernel
theorem dX6_rule_6 : decode cX6_rule 6 = .ok (.iconst 2, 1) := by decide +kernel
theorem dX6_rule_7 : decode cX6_rule 7 = .ok (.invokestatic 61, 3) := by decide +kernel
theorem dX6_rule_10 : decode cX6_rule 10 = .ok (.ifCond .eq 21, 3) := by decide +kernel
theorem dX6_rule_13 : decode cX6_rule 13 = .ok (.aload_n 0, 1) := by decide +kernel
theorem dX6_rule_14 : decode cX6_rule 14 = .ok (.getfield 10, 3) := by decide +kernel
theorem dX6_rule_17 : decode cX6_rule 17 = .ok (.getfield 136, 3) := by decide +kernel
theorem dX6_rule_20 : decode cX6_rule 20 = .ok (.istore_n 3, 1) := by decide +kernel
theorem dX6_rule_21 : decode cX6_rule 21 = .ok (.aload_n 0, 1) := by decide +kernel
theorem dX6_rule_22 : decode cX6_rule 22 = .ok (.getfield 10, 3) := by decide +kernel
theorem dX6_rule_25 : decode cX6_rule 25 = .ok (.iload_n 2, 1) := by decide +kernel
theorem dX6_rule_26 : decode cX6_rule 26 = .ok (.putfield 136, 3) := by decide +kernel
theorem dX6_rule_29 : decode cX6_rule 29 = .ok (.iload_n 3, 1) := by decide +kernel
theorem dX6_rule_30 : decode cX6_rule 30 = .ok (.ireturn, 1) := by decide +kernel
theorem dX6_rule_31 : decode cX6_rule 31 = .ok (.iload_n 1, 1) := by decide +kernel
theorem dX6_rule_32 : decode cX6_rule 32 = .ok (.iconst 1, 1) := by decide +kernel
theorem dX6_rule_33 : decode cX6_rule 33 = .ok (.if_icmp .ne 31, 3) := by decide +kernel
theorem dX6_rule_36 : decode cX6_rule 36 = .ok (.iload_n 2, 1) := by decide +kernel
theorem dX6_rule_37 : decode cX6_rule 37 = .ok (.iconst 0, 1) := by decide +kernel
theorem dX6_rule_38 : decode cX6_rule 38 = .ok (.bipush 9, 2) := by decide +kernel
theorem dX6_rule_40 : decode cX6_rule 40 = .ok (.invokestatic 61, 3) := by decide +kernel
theorem dX6_rule_43 : decode cX6_rule 43 = .ok (.ifCond .eq 21, 3) := by decide +kernel
theorem dX6_rule_46 : decode cX6_rule 46 = .ok (.aload_n 0, 1) := by decide +kernel
theorem dX6_rule_47 : decode cX6_rule 47 = .ok (.getfield 10, 3) := by decide +kernel
theorem dX6_rule_50 : decode cX6_rule 50 = .ok (.getfield 139, 3) := by decide +kernel
theorem dX6_rule_53 : decode cX6_rule 53 = .ok (.istore_n 3, 1) := by decide +kernel
theorem dX6_rule_54 : decode cX6_rule 54 = .ok (.aload_n 0, 1) := by decide +kernel
theorem dX6_rule_55 : decode cX6_rule 55 = .ok (.getfield 10, 3) := by decide +kernel
theorem dX6_rule_58 : decode cX6_rule 58 = .ok (.iload_n 2, 1) := by decide +kernel
theorem dX6_rule_59 : decode cX6_rule 59 = .ok (.putfield 139, 3) := by decide +kernel
theorem dX6_rule_62 : decode cX6_rule 62 = .ok (.iload_n 3, 1) := by decide +kernel
theorem dX6_rule_63 : decode cX6_rule 63 = .ok (.ireturn, 1) := by decide +kernel
theorem dX6_rule_64 : decode cX6_rule 64 = .ok (.iconst (-1), 1) := by decide +kernel
theorem dX6_rule_65 : decode cX6_rule 65 = .ok (.ireturn, 1) := by decide +kernel
theorem dX6_type_0 : decode cX6_type 0 = .ok (.iload_n 3, 1) := by decide +kernel
theorem dX6_type_1 : decode cX6_type 1 = .ok (.iconst 1, 1) := by decide +kernel
theorem dX6_type_2 : decode cX6_type 2 = .ok (.bipush 8, 2) := by decide +kernel
theorem dX6_type_4 : decode cX6_type 4 = .ok (.invokestatic 61, 3) := by decide +kernel
theorem dX6_type_7 : decode cX6_type 7 = .ok (.ifCond .eq 11, 3) := by decide +kernel
theorem dX6_type_10 : decode cX6_type 10 = .ok (.lload_n 1, 1) := by decide +kernel
theorem dX6_type_11 : decode cX6_type 11 = .ok (.iload_n 3, 1) := by decide +kernel
theorem dX6_type_12 : decode cX6_type 12 = .ok (.invokestatic 142, 3) := by decide +kernel
theorem dX6_type_15 : decode cX6_type 15 = .ok (.ifCond .ne 5, 3) := by decide +kernel
theorem dX6_type_18 : decode cX6_type 18 = .ok (.iconst (-1), 1) := by decide +kernel
theorem dX6_type_19 : decode cX6_type 19 = .ok (.ireturn, 1) := by decide +kernel
theorem dX6_type_20 : decode cX6_type 20 = .ok (.aload_n 0, 1) := by decide +kernel
theorem dX6_type_21 : decode cX6_type 21 = .ok (.getfield 46, 3) := by decide +kernel
theorem dX6_type_24 : decode cX6_type 24 = .ok (.getfield 146, 3) := by decide +kernel
theorem dX6_type_27 : decode cX6_type 27 = .ok (.iload_n 3, 1) := by decide +kernel
theorem dX6_type_28 : decode cX6_type 28 = .ok (.iadd, 1) := by decide +kernel
theorem dX6_type_29 : decode cX6_type 29 = .ok (.bipush 80, 2) := by decide +kernel
theorem dX6_type_31 : decode cX6_type 31 = .ok (.if_icmp .le 6, 3) := by decide +kernel
theorem dX6_type_34 : decode cX6_type 34 = .ok (.bipush (-3), 2) := by decide +kernel
theorem dX6_type_36 : decode cX6_type 36 = .ok (.ireturn, 1) := by decide +kernel
theorem dX6_type_37 : decode cX6_type 37 = .ok (.aload_n 0, 1) := by decide +kernel
theorem dX6_type_38 : decode cX6_type 38 = .ok (.getfield 46, 3) := by decide +kernel
theorem dX6_type_41 : decode cX6_type 41 = .ok (.lload_n 1, 1) := by decide +kernel
theorem dX6_type_42 : decode cX6_type 42 = .ok (.iload_n 3, 1) := by decide +kernel
theorem dX6_type_43 : decode cX6_type 43 = .ok (.invokevirtual 149, 3) := by decide +kernel
theorem dX6_type_46 : decode cX6_type 46 = .ok (.aload_n 0, 1) := by decide +kernel
theorem dX6_type_47 : decode cX6_type 47 = .ok (.getfield 46, 3) := by decide +kernel
theorem dX6_type_50 : decode cX6_type 50 = .ok (.getfield 146, 3) := by decide +kernel
theorem dX6_type_53 : decode cX6_type 53 = .ok (.ireturn, 1) := by decide +kernel
theorem dX6_coats_0 : decode cX6_coats 0 = .ok (.aload_n 0, 1) := by decide +kernel
theorem dX6_coats_1 : decode cX6_coats 1 = .ok (.getfield 10, 3) := by decide +kernel
theorem dX6_coats_4 : decode cX6_coats 4 = .ok (.iload_n 1, 1) := by decide +kernel
theorem dX6_coats_5 : decode cX6_coats 5 = .ok (.invokevirtual 77, 3) := by decide +kernel
theorem dX6_coats_8 : decode cX6_coats 8 = .ok (.ifCond .ne 5, 3) := by decide +kernel
theorem dX6_coats_11 : decode cX6_coats 11 = .ok (.iconst (-1), 1) := by decide +kernel
theorem dX6_coats_12 : decode cX6_coats 12 = .ok (.ireturn, 1) := by decide +kernel
theorem dX6_coats_13 : decode cX6_coats 13 = .ok (.aload_n 0, 1) := by decide +kernel
theorem dX6_coats_14 : decode cX6_coats 14 = .ok (.getfield 46, 3) := by decide +kernel
theorem dX6_coats_17 : decode cX6_coats 17 = .ok (.aload_n 0, 1) := by decide +kernel
theorem dX6_coats_18 : decode cX6_coats 18 = .ok (.getfield 25, 3) := by decide +kernel
theorem dX6_coats_21 : decode cX6_coats 21 = .ok (.invokevirtual 153, 3) := by decide +kernel
theorem dX6_coats_24 : decode cX6_coats 24 = .ok (.istore_n 2, 1) := by decide +kernel
theorem dX6_coats_25 : decode cX6_coats 25 = .ok (.aload_n 0, 1) := by decide +kernel
theorem dX6_coats_26 : decode cX6_coats 26 = .ok (.getfield 46, 3) := by decide +kernel
theorem dX6_coats_29 : decode cX6_coats 29 = .ok (.iconst 0, 1) := by decide +kernel
theorem dX6_coats_30 : decode cX6_coats 30 = .ok (.putfield 146, 3) := by decide +kernel
theorem dX6_coats_33 : decode cX6_coats 33 = .ok (.iload_n 2, 1) := by decide +kernel
theorem dX6_coats_34 : decode cX6_coats 34 = .ok (.ifCond .lt 19, 3) := by decide +kernel
theorem dX6_coats_37 : decode cX6_coats 37 = .ok (.aload_n 0, 1) := by decide +kernel
theorem dX6_coats_38 : decode cX6_coats 38 = .ok (.getfield 10, 3) := by decide +kernel
theorem dX6_coats_41 : decode cX6_coats 41 = .ok (.getfield 69, 3) := by decide +kernel
theorem dX6_coats_44 : decode cX6_coats 44 = .ok (.iload_n 1, 1) := by decide +kernel
theorem dX6_coats_45 : decode cX6_coats 45 = .ok (.aaload, 1) := by decide +kernel
theorem dX6_coats_46 : decode cX6_coats 46 = .ok (.aload_n 0, 1) := by decide +kernel
theorem dX6_coats_47 : decode cX6_coats 47 = .ok (.getfield 25, 3) := by decide +kernel
theorem dX6_coats_50 : decode cX6_coats 50 = .ok (.invokevirtual 157, 3) := by decide +kernel
theorem dX6_coats_53 : decode cX6_coats 53 = .ok (.iload_n 2, 1) := by decide +kernel
theorem dX6_coats_54 : decode cX6_coats 54 = .ok (.ireturn, 1) := by decide +kernel
theorem dX6_count_0 : decode cX6_count 0 = .ok (.iload_n 1, 1) := by decide +kernel
theorem dX6_count_1 : decode cX6_count 1 = .ok (.tableswitch 87 0 5 #[39, 47, 55, 63, 71, 79], 39) := by decide +kernel
theorem dX6_count_40 : decode cX6_count 40 = .ok (.aload_n 0, 1) := by decide +kernel
theorem dX6_count_41 : decode cX6_count 41 = .ok (.getfield 10, 3) := by decide +kernel
theorem dX6_count_44 : decode cX6_count 44 = .ok (.getfield 65, 3) := by decide +kernel
theorem dX6_count_47 : decode cX6_count 47 = .ok (.ireturn, 1) := by decide +kernel
theorem dX6_count_48 : decode cX6_count 48 = .ok (.aload_n 0, 1) := by decide +kernel
theorem dX6_count_49 : decode cX6_count 49 = .ok (.getfield 10, 3) := by decide +kernel
theorem dX6_count_52 : decode cX6_count 52 = .ok (.getfield 161, 3) := by decide +kernel
theorem dX6_count_55 : decode cX6_count 55 = .ok (.ireturn, 1) := by decide +kernel
theorem dX6_count_56 : decode cX6_count 56 = .ok (.aload_n 0, 1) := by decide +kernel
theorem dX6_count_57 : decode cX6_count 57 = .ok (.getfield 10, 3) := by decide +kernel
theorem dX6_count_60 : decode cX6_count 60 = .ok (.invokevirtual 164, 3) := by decide +kernel
theorem dX6_count_63 : decode cX6_count 63 = .ok (.ireturn, 1) := by decide +kernel
theorem dX6_count_64 : decode cX6_count 64 = .ok (.aload_n 0, 1) := by decide +kernel
theorem dX6_count_65 : decode cX6_count 65 = .ok (.getfield 10, 3) := by decide +kernel
theorem dX6_count_68 : decode cX6_count 68 = .ok (.invokevirtual 167, 3) := by decide +kernel
theorem dX6_count_71 : decode cX6_count 71 = .ok (.ireturn, 1) := by decide +kernel
theorem dX6_count_72 : decode cX6_count 72 = .ok (.aload_n 0, 1) := by decide +kernel
theorem dX6_count_73 : decode cX6_count 73 = .ok (.getfield 10, 3) := by decide +kernel
theorem dX6_count_76 : decode cX6_count 76 = .ok (.getfield 170, 3) := by decide +kernel
theorem dX6_count_79 : decode cX6_count 79 = .ok (.ireturn, 1) := by decide +kernel
theorem dX6_count_80 : decode cX6_count 80 = .ok (.aload_n 0, 1) := by decide +kernel
theorem dX6_count_81 : decode cX6_count 81 = .ok (.getfield 10, 3) := by decide +kernel
theorem dX6_count_84 : decode cX6_count 84 = .ok (.getfield 173, 3) := by decide +kernel
theorem dX6_count_87 : decode cX6_count 87 = .ok (.ireturn, 1) := by decide +kernel
theorem dX6_count_88 : decode cX6_count 88 = .ok (.iconst (-1), 1) := by decide +kernel
theorem dX6_count_89 : decode cX6_count 89 = .ok (.ireturn, 1) := by decide +kernel
theorem dX6_take_0 : decode cX6_take 0 = .ok (.aload_n 0, 1) := by decide +kernel
theorem dX6_take_1 : decode cX6_take 1 = .ok (.getfield 10, 3) := by decide +kernel
theorem dX6_take_4 : decode cX6_take 4 = .ok (.iload_n 1, 1) := by decide +kernel
theorem dX6_take_5 : decode cX6_take 5 = .ok (.invokevirtual 77, 3) := by decide +kernel
theorem dX6_take_8 : decode cX6_take 8 = .ok (.ifCond .eq 43, 3) := by decide +kernel
theorem dX6_take_11 : decode cX6_take 11 = .ok (.iload_n 2, 1) := by decide +kernel
theorem dX6_take_12 : decode cX6_take 12 = .ok (.invokestatic 127, 3) := by decide +kernel
theorem dX6_take_15 : decode cX6_take 15 = .ok (.ifCond .eq 36, 3) := by decide +kernel
theorem dX6_take_18 : decode cX6_take 18 = .ok (.iload_n 3, 1) := by decide +kernel
theorem dX6_take_19 : decode cX6_take 19 = .ok (.iconst 1, 1) := by decide +kernel
theorem dX6_take_20 : decode cX6_take 20 = .ok (.sipush 9999, 3) := by decide +kernel
theorem dX6_take_23 : decode cX6_take 23 = .ok (.invokestatic 61, 3) := by decide +kernel
theorem dX6_take_26 : decode cX6_take 26 = .ok (.ifCond .eq 25, 3) := by decide +kernel
theorem dX6_take_29 : decode cX6_take 29 = .ok (.iload 4, 2) := by decide +kernel
theorem dX6_take_31 : decode cX6_take 31 = .ok (.iconst 0, 1) := by decide +kernel
theorem dX6_take_32 : decode cX6_take 32 = .ok (.bipush 20, 2) := by decide +kernel
theorem dX6_take_34 : decode cX6_take 34 = .ok (.invokestatic 61, 3) := by decide +kernel
theorem dX6_take_37 : decode cX6_take 37 = .ok (.ifCond .eq 14, 3) := by decide +kernel
theorem dX6_take_40 : decode cX6_take 40 = .ok (.iload 5, 2) := by decide +kernel
theorem dX6_take_42 : decode cX6_take 42 = .ok (.iconst 1, 1) := by decide +kernel
theorem dX6_take_43 : decode cX6_take 43 = .ok (.bipush 9, 2) := by decide +kernel
theorem dX6_take_45 : decode cX6_take 45 = .ok (.invokestatic 61, 3) := by decide +kernel
theorem dX6_take_48 : decode cX6_take 48 = .ok (.ifCond .ne 5, 3) := by decide +kernel
theorem dX6_take_51 : decode cX6_take 51 = .ok (.iconst (-1), 1) := by decide +kernel
theorem dX6_take_52 : decode cX6_take 52 = .ok (.ireturn, 1) := by decide +kernel
theorem dX6_take_53 : decode cX6_take 53 = .ok (.aload_n 0, 1) := by decide +kernel
theorem dX6_take_54 : decode cX6_take 54 = .ok (.getfield 10, 3) := by decide +kernel
theorem dX6_take_57 : decode cX6_take 57 = .ok (.getfield 69, 3) := by decide +kernel
theorem dX6_take_60 : decode cX6_take 60 = .ok (.iload_n 1, 1) := by decide +kernel
theorem dX6_take_61 : decode cX6_take 61 = .ok (.aaload, 1) := by decide +kernel
theorem dX6_take_62 : decode cX6_take 62 = .ok (.astore 6, 2) := by decide +kernel
theorem dX6_take_64 : decode cX6_take 64 = .ok (.aload 6, 2) := by decide +kernel
theorem dX6_take_66 : decode cX6_take 66 = .ok (.getfield 90, 3) := by decide +kernel
theorem dX6_take_69 : decode cX6_take 69 = .ok (.bipush 8, 2) := by decide +kernel
theorem dX6_take_71 : decode cX6_take 71 = .ok (.if_icmp .lt 6, 3) := by decide +kernel
theorem dX6_take_74 : decode cX6_take 74 = .ok (.bipush (-3), 2) := by decide +kernel
theorem dX6_take_76 : decode cX6_take 76 = .ok (.ireturn, 1) := by decide +kernel
theorem dX6_take_77 : decode cX6_take 77 = .ok (.aload 6, 2) := by decide +kernel
theorem dX6_take_79 : decode cX6_take 79 = .ok (.iload_n 2, 1) := by decide +kernel
theorem dX6_take_80 : decode cX6_take 80 = .ok (.iload_n 3, 1) := by decide +kernel
theorem dX6_take_81 : decode cX6_take 81 = .ok (.iload 4, 2) := by decide +kernel
theorem dX6_take_83 : decode cX6_take 83 = .ok (.iload 5, 2) := by decide +kernel
theorem dX6_take_85 : decode cX6_take 85 = .ok (.invokevirtual 176, 3) := by decide +kernel
theorem dX6_take_88 : decode cX6_take 88 = .ok (.aload 6, 2) := by decide +kernel
theorem dX6_take_90 : decode cX6_take 90 = .ok (.aload 6, 2) := by decide +kernel
theorem dX6_take_92 : decode cX6_take 92 = .ok (.getfield 81, 3) := by decide +kernel
theorem dX6_take_95 : decode cX6_take 95 = .ok (.iload_n 3, 1) := by decide +kernel
theorem dX6_take_96 : decode cX6_take 96 = .ok (.iadd, 1) := by decide +kernel
theorem dX6_take_97 : decode cX6_take 97 = .ok (.ldc 180, 2) := by decide +kernel
theorem dX6_take_99 : decode cX6_take 99 = .ok (.invokestatic 101, 3) := by decide +kernel
theorem dX6_take_102 : decode cX6_take 102 = .ok (.putfield 81, 3) := by decide +kernel
theorem dX6_take_105 : decode cX6_take 105 = .ok (.aload 6, 2) := by decide +kernel
theorem dX6_take_107 : decode cX6_take 107 = .ok (.getfield 90, 3) := by decide +kernel
theorem dX6_take_110 : decode cX6_take 110 = .ok (.ireturn, 1) := by decide +kernel
theorem dX6_pay_0 : decode cX6_pay 0 = .ok (.aload_n 0, 1) := by decide +kernel
theorem dX6_pay_1 : decode cX6_pay 1 = .ok (.getfield 10, 3) := by decide +kernel
theorem dX6_pay_4 : decode cX6_pay 4 = .ok (.iload_n 1, 1) := by decide +kernel
theorem dX6_pay_5 : decode cX6_pay 5 = .ok (.iload_n 2, 1) := by decide +kernel
theorem dX6_pay_6 : decode cX6_pay 6 = .ok (.invokevirtual 110, 3) := by decide +kernel
theorem dX6_pay_9 : decode cX6_pay 9 = .ok (.ifCond .ne 5, 3) := by decide +kernel
theorem dX6_pay_12 : decode cX6_pay 12 = .ok (.iconst (-1), 1) := by decide +kernel
theorem dX6_pay_13 : decode cX6_pay 13 = .ok (.ireturn, 1) := by decide +kernel
theorem dX6_pay_14 : decode cX6_pay 14 = .ok (.aload_n 0, 1) := by decide +kernel
theorem dX6_pay_15 : decode cX6_pay 15 = .ok (.getfield 10, 3) := by decide +kernel
theorem dX6_pay_18 : decode cX6_pay 18 = .ok (.getfield 69, 3) := by decide +kernel
theorem dX6_pay_21 : decode cX6_pay 21 = .ok (.iload_n 1, 1) := by decide +kernel
theorem dX6_pay_22 : decode cX6_pay 22 = .ok (.aaload, 1) := by decide +kernel
theorem dX6_pay_23 : decode cX6_pay 23 = .ok (.astore_n 3, 1) := by decide +kernel
theorem dX6_pay_24 : decode cX6_pay 24 = .ok (.aload_n 0, 1) := by decide +kernel
theorem dX6_pay_25 : decode cX6_pay 25 = .ok (.getfield 10, 3) := by decide +kernel
theorem dX6_pay_28 : decode cX6_pay 28 = .ok (.getfield 136, 3) := by decide +kernel
theorem dX6_pay_31 : decode cX6_pay 31 = .ok (.aload_n 3, 1) := by decide +kernel
theorem dX6_pay_32 : decode cX6_pay 32 = .ok (.invokevirtual 181, 3) := by decide +kernel
theorem dX6_pay_35 : decode cX6_pay 35 = .ok (.iload_n 2, 1) := by decide +kernel
theorem dX6_pay_36 : decode cX6_pay 36 = .ok (.invokestatic 184, 3) := by decide +kernel
theorem dX6_pay_39 : decode cX6_pay 39 = .ok (.ifCond .ne 6, 3) := by decide +kernel
theorem dX6_pay_42 : decode cX6_pay 42 = .ok (.bipush (-2), 2) := by decide +kernel
theorem dX6_pay_44 : decode cX6_pay 44 = .ok (.ireturn, 1) := by decide +kernel
theorem dX6_pay_45 : decode cX6_pay 45 = .ok (.aload_n 3, 1) := by decide +kernel
theorem dX6_pay_46 : decode cX6_pay 46 = .ok (.getfield 81, 3) := by decide +kernel
theorem dX6_pay_49 : decode cX6_pay 49 = .ok (.aload_n 3, 1) := by decide +kernel
theorem dX6_pay_50 : decode cX6_pay 50 = .ok (.getfield 118, 3) := by decide +kernel
theorem dX6_pay_53 : decode cX6_pay 53 = .ok (.iload_n 2, 1) := by decide +kernel
theorem dX6_pay_54 : decode cX6_pay 54 = .ok (.iaload, 1) := by decide +kernel
theorem dX6_pay_55 : decode cX6_pay 55 = .ok (.if_icmp .ge 6, 3) := by decide +kernel
theorem dX6_pay_58 : decode cX6_pay 58 = .ok (.bipush (-4), 2) := by decide +kernel
theorem dX6_pay_60 : decode cX6_pay 60 = .ok (.ireturn, 1) := by decide +kernel
theorem dX6_pay_61 : decode cX6_pay 61 = .ok (.aload_n 3, 1) := by decide +kernel
theorem dX6_pay_62 : decode cX6_pay 62 = .ok (.iload_n 2, 1) := by decide +kernel
theorem dX6_pay_63 : decode cX6_pay 63 = .ok (.invokevirtual 187, 3) := by decide +kernel
theorem dX6_pay_66 : decode cX6_pay 66 = .ok (.aload_n 3, 1) := by decide +kernel
theorem dX6_pay_67 : decode cX6_pay 67 = .ok (.getfield 90, 3) := by decide +kernel
theorem dX6_pay_70 : decode cX6_pay 70 = .ok (.ireturn, 1) := by decide +kernel
theorem dX6_nights_0 : decode cX6_nights 0 = .ok (.iload_n 1, 1) := by decide +kernel
theorem dX6_nights_1 : decode cX6_nights 1 = .ok (.iconst 1, 1) := by decide +kernel
theorem dX6_nights_2 : decode cX6_nights 2 = .ok (.bipush 60, 2) := by decide +kernel
theorem dX6_nights_4 : decode cX6_nights 4 = .ok (.invokestatic 61, 3) := by decide +kernel
theorem dX6_nights_7 : decode cX6_nights 7 = .ok (.ifCond .ne 5, 3) := by decide +kernel
theorem dX6_nights_10 : decode cX6_nights 10 = .ok (.iconst (-1), 1) := by decide +kernel
theorem dX6_nights_11 : decode cX6_nights 11 = .ok (.ireturn, 1) := by decide +kernel
theorem dX6_nights_12 : decode cX6_nights 12 = .ok (.aload_n 0, 1) := by decide +kernel
theorem dX6_nights_13 : decode cX6_nights 13 = .ok (.getfield 10, 3) := by decide +kernel
theorem dX6_nights_16 : decode cX6_nights 16 = .ok (.getfield 161, 3) := by decide +kernel
theorem dX6_nights_19 : decode cX6_nights 19 = .ok (.iload_n 1, 1) := by decide +kernel
theorem dX6_nights_20 : decode cX6_nights 20 = .ok (.iadd, 1) := by decide +kernel
theorem dX6_nights_21 : decode cX6_nights 21 = .ok (.sipush 359, 3) := by decide +kernel
theorem dX6_nights_24 : decode cX6_nights 24 = .ok (.if_icmp .le 6, 3) := by decide +kernel
theorem dX6_nights_27 : decode cX6_nights 27 = .ok (.bipush (-3), 2) := by decide +kernel
theorem dX6_nights_29 : decode cX6_nights 29 = .ok (.ireturn, 1) := by decide +kernel
theorem dX6_nights_30 : decode cX6_nights 30 = .ok (.aload_n 0, 1) := by decide +kernel
theorem dX6_nights_31 : decode cX6_nights 31 = .ok (.getfield 10, 3) := by decide +kernel
theorem dX6_nights_34 : decode cX6_nights 34 = .ok (.aload_n 0, 1) := by decide +kernel
theorem dX6_nights_35 : decode cX6_nights 35 = .ok (.getfield 10, 3) := by decide +kernel
theorem dX6_nights_38 : decode cX6_nights 38 = .ok (.getfield 161, 3) := by decide +kernel
theorem dX6_nights_41 : decode cX6_nights 41 = .ok (.iload_n 1, 1) := by decide +kernel
theorem dX6_nights_42 : decode cX6_nights 42 = .ok (.iadd, 1) := by decide +kernel
theorem dX6_nights_43 : decode cX6_nights 43 = .ok (.invokevirtual 191, 3) := by decide +kernel
theorem dX6_nights_46 : decode cX6_nights 46 = .ok (.aload_n 0, 1) := by decide +kernel
theorem dX6_nights_47 : decode cX6_nights 47 = .ok (.getfield 10, 3) := by decide +kernel
theorem dX6_nights_50 : decode cX6_nights 50 = .ok (.getfield 161, 3) := by decide +kernel
theorem dX6_nights_53 : decode cX6_nights 53 = .ok (.ireturn, 1) := by decide +kernel
theorem dX6_cut_0 : decode cX6_cut 0 = .ok (.aload_n 0, 1) := by decide +kernel
theorem dX6_cut_1 : decode cX6_cut 1 = .ok (.getfield 10, 3) := by decide +kernel
theorem dX6_cut_4 : decode cX6_cut 4 = .ok (.iload_n 1, 1) := by decide +kernel
theorem dX6_cut_5 : decode cX6_cut 5 = .ok (.iload_n 2, 1) := by decide +kernel
theorem dX6_cut_6 : decode cX6_cut 6 = .ok (.invokevirtual 110, 3) := by decide +kernel
theorem dX6_cut_9 : decode cX6_cut 9 = .ok (.ifCond .ne 5, 3) := by decide +kernel
theorem dX6_cut_12 : decode cX6_cut 12 = .ok (.iconst (-1), 1) := by decide +kernel
theorem dX6_cut_13 : decode cX6_cut 13 = .ok (.ireturn, 1) := by decide +kernel
theorem dX6_cut_14 : decode cX6_cut 14 = .ok (.aload_n 0, 1) := by decide +kernel
theorem dX6_cut_15 : decode cX6_cut 15 = .ok (.getfield 10, 3) := by decide +kernel
theorem dX6_cut_18 : decode cX6_cut 18 = .ok (.getfield 69, 3) := by decide +kernel
theorem dX6_cut_21 : decode cX6_cut 21 = .ok (.iload_n 1, 1) := by decide +kernel
theorem dX6_cut_22 : decode cX6_cut 22 = .ok (.aaload, 1) := by decide +kernel
theorem dX6_cut_23 : decode cX6_cut 23 = .ok (.astore_n 3, 1) := by decide +kernel
theorem dX6_cut_24 : decode cX6_cut 24 = .ok (.aload_n 3, 1) := by decide +kernel
theorem dX6_cut_25 : decode cX6_cut 25 = .ok (.iload_n 2, 1) := by decide +kernel
theorem dX6_cut_26 : decode cX6_cut 26 = .ok (.invokevirtual 194, 3) := by decide +kernel
theorem dX6_cut_29 : decode cX6_cut 29 = .ok (.ifCond .ne 6, 3) := by decide +kernel
theorem dX6_cut_32 : decode cX6_cut 32 = .ok (.bipush (-2), 2) := by decide +kernel
theorem dX6_cut_34 : decode cX6_cut 34 = .ok (.ireturn, 1) := by decide +kernel
theorem dX6_cut_35 : decode cX6_cut 35 = .ok (.aload_n 0, 1) := by decide +kernel
theorem dX6_cut_36 : decode cX6_cut 36 = .ok (.getfield 10, 3) := by decide +kernel
theorem dX6_cut_39 : decode cX6_cut 39 = .ok (.getfield 170, 3) := by decide +kernel
theorem dX6_cut_42 : decode cX6_cut 42 = .ok (.aload_n 0, 1) := by decide +kernel
theorem dX6_cut_43 : decode cX6_cut 43 = .ok (.getfield 10, 3) := by decide +kernel
theorem dX6_cut_46 : decode cX6_cut 46 = .ok (.getfield 139, 3) := by decide +kernel
theorem dX6_cut_49 : decode cX6_cut 49 = .ok (.if_icmp .lt 6, 3) := by decide +kernel
theorem dX6_cut_52 : decode cX6_cut 52 = .ok (.bipush (-4), 2) := by decide +kernel
theorem dX6_cut_54 : decode cX6_cut 54 = .ok (.ireturn, 1) := by decide +kernel
theorem dX6_cut_55 : decode cX6_cut 55 = .ok (.aload_n 3, 1) := by decide +kernel
theorem dX6_cut_56 : decode cX6_cut 56 = .ok (.iload_n 2, 1) := by decide +kernel
theorem dX6_cut_57 : decode cX6_cut 57 = .ok (.invokevirtual 197, 3) := by decide +kernel
theorem dX6_cut_60 : decode cX6_cut 60 = .ok (.aload_n 0, 1) := by decide +kernel
theorem dX6_cut_61 : decode cX6_cut 61 = .ok (.getfield 10, 3) := by decide +kernel
theorem dX6_cut_64 : decode cX6_cut 64 = .ok (.dup, 1) := by decide +kernel
theorem dX6_cut_65 : decode cX6_cut 65 = .ok (.getfield 170, 3) := by decide +kernel
theorem dX6_cut_68 : decode cX6_cut 68 = .ok (.iconst 1, 1) := by decide +kernel
theorem dX6_cut_69 : decode cX6_cut 69 = .ok (.iadd, 1) := by decide +kernel
theorem dX6_cut_70 : decode cX6_cut 70 = .ok (.putfield 170, 3) := by decide +kernel
theorem dX6_cut_73 : decode cX6_cut 73 = .ok (.aload_n 3, 1) := by decide +kernel
theorem dX6_cut_74 : decode cX6_cut 74 = .ok (.getfield 90, 3) := by decide +kernel
theorem dX6_cut_77 : decode cX6_cut 77 = .ok (.ireturn, 1) := by decide +kernel
theorem dX6_ring_0 : decode cX6_ring 0 = .ok (.aload_n 0, 1) := by decide +kernel
theorem dX6_ring_1 : decode cX6_ring 1 = .ok (.getfield 10, 3) := by decide +kernel
theorem dX6_ring_4 : decode cX6_ring 4 = .ok (.iload_n 1, 1) := by decide +kernel
theorem dX6_ring_5 : decode cX6_ring 5 = .ok (.invokevirtual 77, 3) := by decide +kernel
theorem dX6_ring_8 : decode cX6_ring 8 = .ok (.ifCond .eq 19, 3) := by decide +kernel
theorem dX6_ring_11 : decode cX6_ring 11 = .ok (.aload_n 0, 1) := by decide +kernel
theorem dX6_ring_12 : decode cX6_ring 12 = .ok (.getfield 10, 3) := by decide +kernel
theorem dX6_ring_15 : decode cX6_ring 15 = .ok (.iload_n 2, 1) := by decide +kernel
theorem dX6_ring_16 : decode cX6_ring 16 = .ok (.invokevirtual 77, 3) := by decide +kernel
theorem dX6_ring_19 : decode cX6_ring 19 = .ok (.ifCond .eq 8, 3) := by decide +kernel
theorem dX6_ring_22 : decode cX6_ring 22 = .ok (.iload_n 1, 1) := by decide +kernel
theorem dX6_ring_23 : decode cX6_ring 23 = .ok (.iload_n 2, 1) := by decide +kernel
theorem dX6_ring_24 : decode cX6_ring 24 = .ok (.if_icmp .ne 5, 3) := by decide +kernel
theorem dX6_ring_27 : decode cX6_ring 27 = .ok (.iconst (-1), 1) := by decide +kernel
theorem dX6_ring_28 : decode cX6_ring 28 = .ok (.ireturn, 1) := by decide +kernel
theorem dX6_ring_29 : decode cX6_ring 29 = .ok (.iload_n 3, 1) := by decide +kernel
theorem dX6_ring_30 : decode cX6_ring 30 = .ok (.iconst (-1), 1) := by decide +kernel
theorem dX6_ring_31 : decode cX6_ring 31 = .ok (.if_icmp .eq 7, 3) := by decide +kernel
theorem dX6_ring_34 : decode cX6_ring 34 = .ok (.iconst 1, 1) := by decide +kernel
theorem dX6_ring_35 : decode cX6_ring 35 = .ok (.goto 4, 3) := by decide +kernel
theorem dX6_ring_38 : decode cX6_ring 38 = .ok (.iconst 0, 1) := by decide +kernel
theorem dX6_ring_39 : decode cX6_ring 39 = .ok (.istore 4, 2) := by decide +kernel
theorem dX6_ring_41 : decode cX6_ring 41 = .ok (.iload 4, 2) := by decide +kernel
theorem dX6_ring_43 : decode cX6_ring 43 = .ok (.ifCond .eq 26, 3) := by decide +kernel
theorem dX6_ring_46 : decode cX6_ring 46 = .ok (.aload_n 0, 1) := by decide +kernel
theorem dX6_ring_47 : decode cX6_ring 47 = .ok (.getfield 10, 3) := by decide +kernel
theorem dX6_ring_50 : decode cX6_ring 50 = .ok (.iload_n 3, 1) := by decide +kernel
theorem dX6_ring_51 : decode cX6_ring 51 = .ok (.invokevirtual 77, 3) := by decide +kernel
theorem dX6_ring_54 : decode cX6_ring 54 = .ok (.ifCond .eq 13, 3) := by decide +kernel
theorem dX6_ring_57 : decode cX6_ring 57 = .ok (.iload_n 1, 1) := by decide +kernel
theorem dX6_ring_58 : decode cX6_ring 58 = .ok (.iload_n 3, 1) := by decide +kernel
theorem dX6_ring_59 : decode cX6_ring 59 = .ok (.if_icmp .eq 8, 3) := by decide +kernel
theorem dX6_ring_62 : decode cX6_ring 62 = .ok (.iload_n 2, 1) := by decide +kernel
theorem dX6_ring_63 : decode cX6_ring 63 = .ok (.iload_n 3, 1) := by decide +kernel
theorem dX6_ring_64 : decode cX6_ring 64 = .ok (.if_icmp .ne 5, 3) := by decide +kernel
theorem dX6_ring_67 : decode cX6_ring 67 = .ok (.iconst (-1), 1) := by decide +kernel
theorem dX6_ring_68 : decode cX6_ring 68 = .ok (.ireturn, 1) := by decide +kernel
theorem dX6_ring_69 : decode cX6_ring 69 = .ok (.aload_n 0, 1) := by decide +kernel
theorem dX6_ring_70 : decode cX6_ring 70 = .ok (.getfield 10, 3) := by decide +kernel
theorem dX6_ring_73 : decode cX6_ring 73 = .ok (.getfield 69, 3) := by decide +kernel
theorem dX6_ring_76 : decode cX6_ring 76 = .ok (.iload_n 1, 1) := by decide +kernel
theorem dX6_ring_77 : decode cX6_ring 77 = .ok (.aaload, 1) := by decide +kernel
theorem dX6_ring_78 : decode cX6_ring 78 = .ok (.astore 5, 2) := by decide +kernel
theorem dX6_ring_80 : decode cX6_ring 80 = .ok (.aload_n 0, 1) := by decide +kernel
theorem dX6_ring_81 : decode cX6_ring 81 = .ok (.getfield 10, 3) := by decide +kernel
theorem dX6_ring_84 : decode cX6_ring 84 = .ok (.getfield 69, 3) := by decide +kernel
theorem dX6_ring_87 : decode cX6_ring 87 = .ok (.iload_n 2, 1) := by decide +kernel
theorem dX6_ring_88 : decode cX6_ring 88 = .ok (.aaload, 1) := by decide +kernel
theorem dX6_ring_89 : decode cX6_ring 89 = .ok (.astore 6, 2) := by decide +kernel
theorem dX6_ring_91 : decode cX6_ring 91 = .ok (.iload 4, 2) := by decide +kernel
theorem dX6_ring_93 : decode cX6_ring 93 = .ok (.ifCond .eq 15, 3) := by decide +kernel
theorem dX6_ring_96 : decode cX6_ring 96 = .ok (.aload_n 0, 1) := by decide +kernel
theorem dX6_ring_97 : decode cX6_ring 97 = .ok (.getfield 10, 3) := by decide +kernel
theorem dX6_ring_100 : decode cX6_ring 100 = .ok (.getfield 69, 3) := by decide +kernel
theorem dX6_ring_103 : decode cX6_ring 103 = .ok (.iload_n 3, 1) := by decide +kernel
theorem dX6_ring_104 : decode cX6_ring 104 = .ok (.aaload, 1) := by decide +kernel
theorem dX6_ring_105 : decode cX6_ring 105 = .ok (.goto 4, 3) := by decide +kernel
theorem dX6_ring_108 : decode cX6_ring 108 = .ok (.aconst_null, 1) := by decide +kernel
theorem dX6_ring_109 : decode cX6_ring 109 = .ok (.astore 7, 2) := by decide +kernel
theorem dX6_ring_111 : decode cX6_ring 111 = .ok (.aload 5, 2) := by decide +kernel
theorem dX6_ring_113 : decode cX6_ring 113 = .ok (.getfield 90, 3) := by decide +kernel
theorem dX6_ring_116 : decode cX6_ring 116 = .ok (.ifCond .eq 24, 3) := by decide +kernel
theorem dX6_ring_119 : decode cX6_ring 119 = .ok (.aload 6, 2) := by decide +kernel
theorem dX6_ring_121 : decode cX6_ring 121 = .ok (.getfield 90, 3) := by decide +kernel
theorem dX6_ring_124 : decode cX6_ring 124 = .ok (.ifCond .eq 16, 3) := by decide +kernel
theorem dX6_ring_127 : decode cX6_ring 127 = .ok (.aload 7, 2) := by decide +kernel
theorem dX6_ring_129 : decode cX6_ring 129 = .ok (.ifnull 14, 3) := by decide +kernel
theorem dX6_ring_132 : decode cX6_ring 132 = .ok (.aload 7, 2) := by decide +kernel
theorem dX6_ring_134 : decode cX6_ring 134 = .ok (.getfield 90, 3) := by decide +kernel
theorem dX6_ring_137 : decode cX6_ring 137 = .ok (.ifCond .ne 6, 3) := by decide +kernel
theorem dX6_ring_140 : decode cX6_ring 140 = .ok (.bipush (-2), 2) := by decide +kernel
theorem dX6_ring_142 : decode cX6_ring 142 = .ok (.ireturn, 1) := by decide +kernel
theorem dX6_ring_143 : decode cX6_ring 143 = .ok (.aload 5, 2) := by decide +kernel
theorem dX6_ring_145 : decode cX6_ring 145 = .ok (.aload 6, 2) := by decide +kernel
theorem dX6_ring_147 : decode cX6_ring 147 = .ok (.aload 7, 2) := by decide +kernel
theorem dX6_ring_149 : decode cX6_ring 149 = .ok (.invokestatic 200, 3) := by decide +kernel
theorem dX6_ring_152 : decode cX6_ring 152 = .ok (.istore 8, 2) := by decide +kernel
theorem dX6_ring_154 : decode cX6_ring 154 = .ok (.iload 8, 2) := by decide +kernel
theorem dX6_ring_156 : decode cX6_ring 156 = .ok (.ifCond .ne 6, 3) := by decide +kernel
theorem dX6_ring_159 : decode cX6_ring 159 = .ok (.bipush (-4), 2) := by decide +kernel
theorem dX6_ring_161 : decode cX6_ring 161 = .ok (.ireturn, 1) := by decide +kernel
theorem dX6_ring_162 : decode cX6_ring 162 = .ok (.aload 5, 2) := by decide +kernel
theorem dX6_ring_164 : decode cX6_ring 164 = .ok (.aload 6, 2) := by decide +kernel
theorem dX6_ring_166 : decode cX6_ring 166 = .ok (.invokevirtual 204, 3) := by decide +kernel
theorem dX6_ring_169 : decode cX6_ring 169 = .ok (.aload 7, 2) := by decide +kernel
theorem dX6_ring_171 : decode cX6_ring 171 = .ok (.ifnull 10, 3) := by decide +kernel
theorem dX6_ring_174 : decode cX6_ring 174 = .ok (.aload 5, 2) := by decide +kernel
theorem dX6_ring_176 : decode cX6_ring 176 = .ok (.aload 7, 2) := by decide +kernel
theorem dX6_ring_178 : decode cX6_ring 178 = .ok (.invokevirtual 204, 3) := by decide +kernel
theorem dX6_ring_181 : decode cX6_ring 181 = .ok (.iload 8, 2) := by decide +kernel
theorem dX6_ring_183 : decode cX6_ring 183 = .ok (.ireturn, 1) := by decide +kernel
theorem dX6_rings_0 : decode cX6_rings 0 = .ok (.iload_n 1, 1) := by decide +kernel
theorem dX6_rings_1 : decode cX6_rings 1 = .ok (.iconst (-1), 1) := by decide +kernel
theorem dX6_rings_2 : decode cX6_rings 2 = .ok (.iconst 2, 1) := by decide +kernel
theorem dX6_rings_3 : decode cX6_rings 3 = .ok (.invokestatic 61, 3) := by decide +kernel
theorem dX6_rings_6 : decode cX6_rings 6 = .ok (.ifCond .ne 5, 3) := by decide +kernel
theorem dX6_rings_9 : decode cX6_rings 9 = .ok (.iconst (-1), 1) := by decide +kernel
theorem dX6_rings_10 : decode cX6_rings 10 = .ok (.ireturn, 1) := by decide +kernel
theorem dX6_rings_11 : decode cX6_rings 11 = .ok (.aload_n 0, 1) := by decide +kernel
theorem dX6_rings_12 : decode cX6_rings 12 = .ok (.getfield 39, 3) := by decide +kernel
theorem dX6_rings_15 : decode cX6_rings 15 = .ok (.aload_n 0, 1) := by decide +kernel
theorem dX6_rings_16 : decode cX6_rings 16 = .ok (.getfield 10, 3) := by decide +kernel
theorem dX6_rings_19 : decode cX6_rings 19 = .ok (.invokevirtual 207, 3) := by decide +kernel
theorem dX6_rings_22 : decode cX6_rings 22 = .ok (.iload_n 1, 1) := by decide +kernel
theorem dX6_rings_23 : decode cX6_rings 23 = .ok (.aload_n 0, 1) := by decide +kernel
theorem dX6_rings_24 : decode cX6_rings 24 = .ok (.getfield 39, 3) := by decide +kernel
theorem dX6_rings_27 : decode cX6_rings 27 = .ok (.getfield 211, 3) := by decide +kernel
theorem dX6_rings_30 : decode cX6_rings 30 = .ok (.if_icmp .lt 6, 3) := by decide +kernel
theorem dX6_rings_33 : decode cX6_rings 33 = .ok (.bipush (-4), 2) := by decide +kernel
theorem dX6_rings_35 : decode cX6_rings 35 = .ok (.ireturn, 1) := by decide +kernel
theorem dX6_rings_36 : decode cX6_rings 36 = .ok (.iload_n 1, 1) := by decide +kernel
theorem dX6_rings_37 : decode cX6_rings 37 = .ok (.ifCond .lt 13, 3) := by decide +kernel
theorem dX6_rings_40 : decode cX6_rings 40 = .ok (.aload_n 0, 1) := by decide +kernel
theorem dX6_rings_41 : decode cX6_rings 41 = .ok (.getfield 39, 3) := by decide +kernel
theorem dX6_rings_44 : decode cX6_rings 44 = .ok (.getfield 214, 3) := by decide +kernel
theorem dX6_rings_47 : decode cX6_rings 47 = .ok (.iload_n 1, 1) := by decide +kernel
theorem dX6_rings_48 : decode cX6_rings 48 = .ok (.iaload, 1) := by decide +kernel
theorem dX6_rings_49 : decode cX6_rings 49 = .ok (.ireturn, 1) := by decide +kernel
theorem dX6_rings_50 : decode cX6_rings 50 = .ok (.aload_n 0, 1) := by decide +kernel
theorem dX6_rings_51 : decode cX6_rings 51 = .ok (.getfield 39, 3) := by decide +kernel
theorem dX6_rings_54 : decode cX6_rings 54 = .ok (.getfield 211, 3) := by decide +kernel
theorem dX6_rings_57 : decode cX6_rings 57 = .ok (.ifCond .ne 8, 3) := by decide +kernel
theorem dX6_rings_60 : decode cX6_rings 60 = .ok (.bipush (-4), 2) := by decide +kernel
theorem dX6_rings_62 : decode cX6_rings 62 = .ok (.goto 10, 3) := by decide +kernel
theorem dX6_rings_65 : decode cX6_rings 65 = .ok (.aload_n 0, 1) := by decide +kernel
theorem dX6_rings_66 : decode cX6_rings 66 = .ok (.getfield 39, 3) := by decide +kernel
theorem dX6_rings_69 : decode cX6_rings 69 = .ok (.getfield 217, 3) := by decide +kernel
theorem dX6_rings_72 : decode cX6_rings 72 = .ok (.ireturn, 1) := by decide +kernel
theorem dX6_owed_0 : decode cX6_owed 0 = .ok (.iload_n 1, 1) := by decide +kernel
theorem dX6_owed_1 : decode cX6_owed 1 = .ok (.invokestatic 127, 3) := by decide +kernel
theorem dX6_owed_4 : decode cX6_owed 4 = .ok (.ifCond .ne 5, 3) := by decide +kernel
theorem dX6_owed_7 : decode cX6_owed 7 = .ok (.iconst (-1), 1) := by decide +kernel
theorem dX6_owed_8 : decode cX6_owed 8 = .ok (.ireturn, 1) := by decide +kernel
theorem dX6_owed_9 : decode cX6_owed 9 = .ok (.iconst 0, 1) := by decide +kernel
theorem dX6_owed_10 : decode cX6_owed 10 = .ok (.istore_n 2, 1) := by decide +kernel
theorem dX6_owed_11 : decode cX6_owed 11 = .ok (.iconst 0, 1) := by decide +kernel
theorem dX6_owed_12 : decode cX6_owed 12 = .ok (.istore_n 3, 1) := by decide +kernel
theorem dX6_owed_13 : decode cX6_owed 13 = .ok (.iload_n 3, 1) := by decide +kernel
theorem dX6_owed_14 : decode cX6_owed 14 = .ok (.aload_n 0, 1) := by decide +kernel
theorem dX6_owed_15 : decode cX6_owed 15 = .ok (.getfield 10, 3) := by decide +kernel
theorem dX6_owed_18 : decode cX6_owed 18 = .ok (.getfield 65, 3) := by decide +kernel
theorem dX6_owed_21 : decode cX6_owed 21 = .ok (.if_icmp .ge 25, 3) := by decide +kernel
theorem dX6_owed_24 : decode cX6_owed 24 = .ok (.iload_n 2, 1) := by decide +kernel
theorem dX6_owed_25 : decode cX6_owed 25 = .ok (.aload_n 0, 1) := by decide +kernel
theorem dX6_owed_26 : decode cX6_owed 26 = .ok (.getfield 10, 3) := by decide +kernel
theorem dX6_owed_29 : decode cX6_owed 29 = .ok (.getfield 69, 3) := by decide +kernel
theorem dX6_owed_32 : decode cX6_owed 32 = .ok (.iload_n 3, 1) := by decide +kernel
theorem dX6_owed_33 : decode cX6_owed 33 = .ok (.aaload, 1) := by decide +kernel
theorem dX6_owed_34 : decode cX6_owed 34 = .ok (.iload_n 1, 1) := by decide +kernel
theorem dX6_owed_35 : decode cX6_owed 35 = .ok (.invokevirtual 220, 3) := by decide +kernel
theorem dX6_owed_38 : decode cX6_owed 38 = .ok (.iadd, 1) := by decide +kernel
theorem dX6_owed_39 : decode cX6_owed 39 = .ok (.istore_n 2, 1) := by decide +kernel
theorem dX6_owed_40 : decode cX6_owed 40 = .ok (.iinc 3 1, 3) := by decide +kernel
theorem dX6_owed_43 : decode cX6_owed 43 = .ok (.goto (-30), 3) := by decide +kernel
theorem dX6_owed_46 : decode cX6_owed 46 = .ok (.iload_n 2, 1) := by decide +kernel
theorem dX6_owed_47 : decode cX6_owed 47 = .ok (.ldc 100, 2) := by decide +kernel
theorem dX6_owed_49 : decode cX6_owed 49 = .ok (.invokestatic 101, 3) := by decide +kernel
theorem dX6_owed_52 : decode cX6_owed 52 = .ok (.ireturn, 1) := by decide +kernel
theorem dX6_free_0 : decode cX6_free 0 = .ok (.aload_n 0, 1) := by decide +kernel
theorem dX6_free_1 : decode cX6_free 1 = .ok (.getfield 10, 3) := by decide +kernel
theorem dX6_free_4 : decode cX6_free 4 = .ok (.iload_n 1, 1) := by decide +kernel
theorem dX6_free_5 : decode cX6_free 5 = .ok (.invokevirtual 77, 3) := by decide +kernel
theorem dX6_free_8 : decode cX6_free 8 = .ok (.ifCond .eq 13, 3) := by decide +kernel
theorem dX6_free_11 : decode cX6_free 11 = .ok (.iload_n 2, 1) := by decide +kernel
theorem dX6_free_12 : decode cX6_free 12 = .ok (.iconst 0, 1) := by decide +kernel
theorem dX6_free_13 : decode cX6_free 13 = .ok (.bipush 7, 2) := by decide +kernel
theorem dX6_free_15 : decode cX6_free 15 = .ok (.invokestatic 61, 3) := by decide +kernel
theorem dX6_free_18 : decode cX6_free 18 = .ok (.ifCond .ne 5, 3) := by decide +kernel
theorem dX6_free_21 : decode cX6_free 21 = .ok (.iconst (-1), 1) := by decide +kernel
theorem dX6_free_22 : decode cX6_free 22 = .ok (.ireturn, 1) := by decide +kernel
theorem dX6_free_23 : decode cX6_free 23 = .ok (.aload_n 0, 1) := by decide +kernel
theorem dX6_free_24 : decode cX6_free 24 = .ok (.getfield 10, 3) := by decide +kernel
theorem dX6_free_27 : decode cX6_free 27 = .ok (.getfield 69, 3) := by decide +kernel
theorem dX6_free_30 : decode cX6_free 30 = .ok (.iload_n 1, 1) := by decide +kernel
theorem dX6_free_31 : decode cX6_free 31 = .ok (.aaload, 1) := by decide +kernel
theorem dX6_free_32 : decode cX6_free 32 = .ok (.astore_n 3, 1) := by decide +kernel
theorem dX6_free_33 : decode cX6_free 33 = .ok (.aload_n 3, 1) := by decide +kernel
theorem dX6_free_34 : decode cX6_free 34 = .ok (.getfield 90, 3) := by decide +kernel
theorem dX6_free_37 : decode cX6_free 37 = .ok (.bipush 6, 2) := by decide +kernel
theorem dX6_free_39 : decode cX6_free 39 = .ok (.if_icmp .le 6, 3) := by decide +kernel
theorem dX6_free_42 : decode cX6_free 42 = .ok (.bipush (-3), 2) := by decide +kernel
theorem dX6_free_44 : decode cX6_free 44 = .ok (.ireturn, 1) := by decide +kernel
theorem dX6_free_45 : decode cX6_free 45 = .ok (.aload_n 0, 1) := by decide +kernel
theorem dX6_free_46 : decode cX6_free 46 = .ok (.getfield 32, 3) := by decide +kernel
theorem dX6_free_49 : decode cX6_free 49 = .ok (.aload_n 3, 1) := by decide +kernel
theorem dX6_free_50 : decode cX6_free 50 = .ok (.aload_n 0, 1) := by decide +kernel
theorem dX6_free_51 : decode cX6_free 51 = .ok (.getfield 10, 3) := by decide +kernel
theorem dX6_free_54 : decode cX6_free 54 = .ok (.getfield 136, 3) := by decide +kernel
theorem dX6_free_57 : decode cX6_free 57 = .ok (.invokevirtual 224, 3) := by decide +kernel
theorem dX6_free_60 : decode cX6_free 60 = .ok (.aload_n 0, 1) := by decide +kernel
theorem dX6_free_61 : decode cX6_free 61 = .ok (.getfield 32, 3) := by decide +kernel
theorem dX6_free_64 : decode cX6_free 64 = .ok (.getfield 228, 3) := by decide +kernel
theorem dX6_free_67 : decode cX6_free 67 = .ok (.sipush 360, 3) := by decide +kernel
theorem dX6_free_70 : decode cX6_free 70 = .ok (.if_icmp .le 6, 3) := by decide +kernel
theorem dX6_free_73 : decode cX6_free 73 = .ok (.bipush (-4), 2) := by decide +kernel
theorem dX6_free_75 : decode cX6_free 75 = .ok (.ireturn, 1) := by decide +kernel
theorem dX6_free_76 : decode cX6_free 76 = .ok (.iload_n 2, 1) := by decide +kernel
theorem dX6_free_77 : decode cX6_free 77 = .ok (.ifCond .ne 11, 3) := by decide +kernel
theorem dX6_free_80 : decode cX6_free 80 = .ok (.aload_n 0, 1) := by decide +kernel
theorem dX6_free_81 : decode cX6_free 81 = .ok (.getfield 32, 3) := by decide +kernel
theorem dX6_free_84 : decode cX6_free 84 = .ok (.getfield 228, 3) := by decide +kernel
theorem dX6_free_87 : decode cX6_free 87 = .ok (.ireturn, 1) := by decide +kernel
theorem dX6_free_88 : decode cX6_free 88 = .ok (.iload_n 2, 1) := by decide +kernel
theorem dX6_free_89 : decode cX6_free 89 = .ok (.iconst 1, 1) := by decide +kernel
theorem dX6_free_90 : decode cX6_free 90 = .ok (.if_icmp .ne 11, 3) := by decide +kernel
theorem dX6_free_93 : decode cX6_free 93 = .ok (.aload_n 0, 1) := by decide +kernel
theorem dX6_free_94 : decode cX6_free 94 = .ok (.getfield 32, 3) := by decide +kernel
theorem dX6_free_97 : decode cX6_free 97 = .ok (.getfield 231, 3) := by decide +kernel
theorem dX6_free_100 : decode cX6_free 100 = .ok (.ireturn, 1) := by decide +kernel
theorem dX6_free_101 : decode cX6_free 101 = .ok (.iload_n 2, 1) := by decide +kernel
theorem dX6_free_102 : decode cX6_free 102 = .ok (.iconst 2, 1) := by decide +kernel
theorem dX6_free_103 : decode cX6_free 103 = .ok (.isub, 1) := by decide +kernel
theorem dX6_free_104 : decode cX6_free 104 = .ok (.aload_n 3, 1) := by decide +kernel
theorem dX6_free_105 : decode cX6_free 105 = .ok (.getfield 90, 3) := by decide +kernel
theorem dX6_free_108 : decode cX6_free 108 = .ok (.if_icmp .ge 17, 3) := by decide +kernel
theorem dX6_free_111 : decode cX6_free 111 = .ok (.aload_n 0, 1) := by decide +kernel
theorem dX6_free_112 : decode cX6_free 112 = .ok (.getfield 32, 3) := by decide +kernel
theorem dX6_free_115 : decode cX6_free 115 = .ok (.getfield 234, 3) := by decide +kernel
theorem dX6_free_118 : decode cX6_free 118 = .ok (.iload_n 2, 1) := by decide +kernel
theorem dX6_free_119 : decode cX6_free 119 = .ok (.iconst 2, 1) := by decide +kernel
theorem dX6_free_120 : decode cX6_free 120 = .ok (.isub, 1) := by decide +kernel
theorem dX6_free_121 : decode cX6_free 121 = .ok (.iaload, 1) := by decide +kernel
theorem dX6_free_122 : decode cX6_free 122 = .ok (.goto 5, 3) := by decide +kernel
theorem dX6_free_125 : decode cX6_free 125 = .ok (.bipush (-4), 2) := by decide +kernel
theorem dX6_free_127 : decode cX6_free 127 = .ok (.ireturn, 1) := by decide +kernel
theorem dX6_saves_0 : decode cX6_saves 0 = .ok (.aload_n 0, 1) := by decide +kernel
theorem dX6_saves_1 : decode cX6_saves 1 = .ok (.getfield 10, 3) := by decide +kernel
theorem dX6_saves_4 : decode cX6_saves 4 = .ok (.iload_n 1, 1) := by decide +kernel
theorem dX6_saves_5 : decode cX6_saves 5 = .ok (.iload_n 2, 1) := by decide +kernel
theorem dX6_saves_6 : decode cX6_saves 6 = .ok (.invokevirtual 110, 3) := by decide +kernel
theorem dX6_saves_9 : decode cX6_saves 9 = .ok (.ifCond .ne 5, 3) := by decide +kernel
theorem dX6_saves_12 : decode cX6_saves 12 = .ok (.iconst (-1), 1) := by decide +kernel
theorem dX6_saves_13 : decode cX6_saves 13 = .ok (.ireturn, 1) := by decide +kernel
theorem dX6_saves_14 : decode cX6_saves 14 = .ok (.aload_n 0, 1) := by decide +kernel
theorem dX6_saves_15 : decode cX6_saves 15 = .ok (.getfield 10, 3) := by decide +kernel
theorem dX6_saves_18 : decode cX6_saves 18 = .ok (.getfield 69, 3) := by decide +kernel
theorem dX6_saves_21 : decode cX6_saves 21 = .ok (.iload_n 1, 1) := by decide +kernel
theorem dX6_saves_22 : decode cX6_saves 22 = .ok (.aaload, 1) := by decide +kernel
theorem dX6_saves_23 : decode cX6_saves 23 = .ok (.astore_n 3, 1) := by decide +kernel
theorem dX6_saves_24 : decode cX6_saves 24 = .ok (.aload_n 3, 1) := by decide +kernel
theorem dX6_saves_25 : decode cX6_saves 25 = .ok (.getfield 90, 3) := by decide +kernel
theorem dX6_saves_28 : decode cX6_saves 28 = .ok (.bipush 6, 2) := by decide +kernel
theorem dX6_saves_30 : decode cX6_saves 30 = .ok (.if_icmp .le 6, 3) := by decide +kernel
theorem dX6_saves_33 : decode cX6_saves 33 = .ok (.bipush (-3), 2) := by decide +kernel
theorem dX6_saves_35 : decode cX6_saves 35 = .ok (.ireturn, 1) := by decide +kernel
theorem dX6_saves_36 : decode cX6_saves 36 = .ok (.aload_n 3, 1) := by decide +kernel
theorem dX6_saves_37 : decode cX6_saves 37 = .ok (.iload_n 2, 1) := by decide +kernel
theorem dX6_saves_38 : decode cX6_saves 38 = .ok (.invokevirtual 194, 3) := by decide +kernel
theorem dX6_saves_41 : decode cX6_saves 41 = .ok (.ifCond .ne 6, 3) := by decide +kernel
theorem dX6_saves_44 : decode cX6_saves 44 = .ok (.bipush (-2), 2) := by decide +kernel
theorem dX6_saves_46 : decode cX6_saves 46 = .ok (.ireturn, 1) := by decide +kernel
theorem dX6_saves_47 : decode cX6_saves 47 = .ok (.aload_n 0, 1) := by decide +kernel
theorem dX6_saves_48 : decode cX6_saves 48 = .ok (.getfield 32, 3) := by decide +kernel
theorem dX6_saves_51 : decode cX6_saves 51 = .ok (.aload_n 3, 1) := by decide +kernel
theorem dX6_saves_52 : decode cX6_saves 52 = .ok (.aload_n 0, 1) := by decide +kernel
theorem dX6_saves_53 : decode cX6_saves 53 = .ok (.getfield 10, 3) := by decide +kernel
theorem dX6_saves_56 : decode cX6_saves 56 = .ok (.getfield 136, 3) := by decide +kernel
theorem dX6_saves_59 : decode cX6_saves 59 = .ok (.invokevirtual 224, 3) := by decide +kernel
theorem dX6_saves_62 : decode cX6_saves 62 = .ok (.aload_n 0, 1) := by decide +kernel
theorem dX6_saves_63 : decode cX6_saves 63 = .ok (.getfield 32, 3) := by decide +kernel
theorem dX6_saves_66 : decode cX6_saves 66 = .ok (.getfield 228, 3) := by decide +kernel
theorem dX6_saves_69 : decode cX6_saves 69 = .ok (.istore 4, 2) := by decide +kernel
theorem dX6_saves_71 : decode cX6_saves 71 = .ok (.aload_n 0, 1) := by decide +kernel
theorem dX6_saves_72 : decode cX6_saves 72 = .ok (.getfield 25, 3) := by decide +kernel
theorem dX6_saves_75 : decode cX6_saves 75 = .ok (.aload_n 3, 1) := by decide +kernel
theorem dX6_saves_76 : decode cX6_saves 76 = .ok (.invokevirtual 237, 3) := by decide +kernel
theorem dX6_saves_79 : decode cX6_saves 79 = .ok (.aload_n 0, 1) := by decide +kernel
theorem dX6_saves_80 : decode cX6_saves 80 = .ok (.getfield 25, 3) := by decide +kernel
theorem dX6_saves_83 : decode cX6_saves 83 = .ok (.iload_n 2, 1) := by decide +kernel
theorem dX6_saves_84 : decode cX6_saves 84 = .ok (.invokevirtual 197, 3) := by decide +kernel
theorem dX6_saves_87 : decode cX6_saves 87 = .ok (.aload_n 0, 1) := by decide +kernel
theorem dX6_saves_88 : decode cX6_saves 88 = .ok (.getfield 32, 3) := by decide +kernel
theorem dX6_saves_91 : decode cX6_saves 91 = .ok (.aload_n 0, 1) := by decide +kernel
theorem dX6_saves_92 : decode cX6_saves 92 = .ok (.getfield 25, 3) := by decide +kernel
theorem dX6_saves_95 : decode cX6_saves 95 = .ok (.aload_n 0, 1) := by decide +kernel
theorem dX6_saves_96 : decode cX6_saves 96 = .ok (.getfield 10, 3) := by decide +kernel
theorem dX6_saves_99 : decode cX6_saves 99 = .ok (.getfield 136, 3) := by decide +kernel
theorem dX6_saves_102 : decode cX6_saves 102 = .ok (.invokevirtual 224, 3) := by decide +kernel
theorem dX6_saves_105 : decode cX6_saves 105 = .ok (.iload 4, 2) := by decide +kernel
theorem dX6_saves_107 : decode cX6_saves 107 = .ok (.aload_n 0, 1) := by decide +kernel
theorem dX6_saves_108 : decode cX6_saves 108 = .ok (.getfield 32, 3) := by decide +kernel
theorem dX6_saves_111 : decode cX6_saves 111 = .ok (.getfield 228, 3) := by decide +kernel
theorem dX6_saves_114 : decode cX6_saves 114 = .ok (.isub, 1) := by decide +kernel
theorem dX6_saves_115 : decode cX6_saves 115 = .ok (.ireturn, 1) := by decide +kernel
theorem dX6_bears_0 : decode cX6_bears 0 = .ok (.aload_n 0, 1) := by decide +kernel
theorem dX6_bears_1 : decode cX6_bears 1 = .ok (.getfield 10, 3) := by decide +kernel
theorem dX6_bears_4 : decode cX6_bears 4 = .ok (.iload_n 1, 1) := by decide +kernel
theorem dX6_bears_5 : decode cX6_bears 5 = .ok (.invokevirtual 77, 3) := by decide +kernel
theorem dX6_bears_8 : decode cX6_bears 8 = .ok (.ifCond .ne 5, 3) := by decide +kernel
theorem dX6_bears_11 : decode cX6_bears 11 = .ok (.iconst (-1), 1) := by decide +kernel
theorem dX6_bears_12 : decode cX6_bears 12 = .ok (.ireturn, 1) := by decide +kernel
theorem dX6_bears_13 : decode cX6_bears 13 = .ok (.aload_n 0, 1) := by decide +kernel
theorem dX6_bears_14 : decode cX6_bears 14 = .ok (.getfield 10, 3) := by decide +kernel
theorem dX6_bears_17 : decode cX6_bears 17 = .ok (.getfield 69, 3) := by decide +kernel
theorem dX6_bears_20 : decode cX6_bears 20 = .ok (.iload_n 1, 1) := by decide +kernel
theorem dX6_bears_21 : decode cX6_bears 21 = .ok (.aaload, 1) := by decide +kernel
theorem dX6_bears_22 : decode cX6_bears 22 = .ok (.astore_n 2, 1) := by decide +kernel
theorem dX6_bears_23 : decode cX6_bears 23 = .ok (.aload_n 0, 1) := by decide +kernel
theorem dX6_bears_24 : decode cX6_bears 24 = .ok (.getfield 10, 3) := by decide +kernel
theorem dX6_bears_27 : decode cX6_bears 27 = .ok (.getfield 161, 3) := by decide +kernel
theorem dX6_bears_30 : decode cX6_bears 30 = .ok (.iconst 1, 1) := by decide +kernel
theorem dX6_bears_31 : decode cX6_bears 31 = .ok (.iadd, 1) := by decide +kernel
theorem dX6_bears_32 : decode cX6_bears 32 = .ok (.istore_n 3, 1) := by decide +kernel
theorem dX6_bears_33 : decode cX6_bears 33 = .ok (.iload_n 3, 1) := by decide +kernel
theorem dX6_bears_34 : decode cX6_bears 34 = .ok (.sipush 359, 3) := by decide +kernel
theorem dX6_bears_37 : decode cX6_bears 37 = .ok (.if_icmp .gt 34, 3) := by decide +kernel
theorem dX6_bears_40 : decode cX6_bears 40 = .ok (.aload_n 2, 1) := by decide +kernel
theorem dX6_bears_41 : decode cX6_bears 41 = .ok (.aload_n 0, 1) := by decide +kernel
theorem dX6_bears_42 : decode cX6_bears 42 = .ok (.getfield 10, 3) := by decide +kernel
theorem dX6_bears_45 : decode cX6_bears 45 = .ok (.iload_n 3, 1) := by decide +kernel
theorem dX6_bears_46 : decode cX6_bears 46 = .ok (.invokevirtual 240, 3) := by decide +kernel
theorem dX6_bears_49 : decode cX6_bears 49 = .ok (.invokevirtual 243, 3) := by decide +kernel
theorem dX6_bears_52 : decode cX6_bears 52 = .ok (.ifCond .eq 13, 3) := by decide +kernel
theorem dX6_bears_55 : decode cX6_bears 55 = .ok (.iload_n 3, 1) := by decide +kernel
theorem dX6_bears_56 : decode cX6_bears 56 = .ok (.aload_n 0, 1) := by decide +kernel
theorem dX6_bears_57 : decode cX6_bears 57 = .ok (.getfield 10, 3) := by decide +kernel
theorem dX6_bears_60 : decode cX6_bears 60 = .ok (.getfield 161, 3) := by decide +kernel
theorem dX6_bears_63 : decode cX6_bears 63 = .ok (.isub, 1) := by decide +kernel
theorem dX6_bears_64 : decode cX6_bears 64 = .ok (.ireturn, 1) := by decide +kernel
theorem dX6_bears_65 : decode cX6_bears 65 = .ok (.iinc 3 1, 3) := by decide +kernel
theorem dX6_bears_68 : decode cX6_bears 68 = .ok (.goto (-35), 3) := by decide +kernel
theorem dX6_bears_71 : decode cX6_bears 71 = .ok (.bipush (-4), 2) := by decide +kernel
theorem dX6_bears_73 : decode cX6_bears 73 = .ok (.ireturn, 1) := by decide +kernel
theorem dX6_ware_0 : decode cX6_ware 0 = .ok (.iload_n 1, 1) := by decide +kernel
theorem dX6_ware_1 : decode cX6_ware 1 = .ok (.iconst 1, 1) := by decide +kernel
theorem dX6_ware_2 : decode cX6_ware 2 = .ok (.sipush 9999, 3) := by decide +kernel
theorem dX6_ware_5 : decode cX6_ware 5 = .ok (.invokestatic 61, 3) := by decide +kernel
theorem dX6_ware_8 : decode cX6_ware 8 = .ok (.ifCond .eq 13, 3) := by decide +kernel
theorem dX6_ware_11 : decode cX6_ware 11 = .ok (.iload_n 2, 1) := by decide +kernel
theorem dX6_ware_12 : decode cX6_ware 12 = .ok (.iconst 1, 1) := by decide +kernel
theorem dX6_ware_13 : decode cX6_ware 13 = .ok (.bipush 9, 2) := by decide +kernel
theorem dX6_ware_15 : decode cX6_ware 15 = .ok (.invokestatic 61, 3) := by decide +kernel
theorem dX6_ware_18 : decode cX6_ware 18 = .ok (.ifCond .ne 5, 3) := by decide +kernel
theorem dX6_ware_21 : decode cX6_ware 21 = .ok (.iconst (-1), 1) := by decide +kernel
theorem dX6_ware_22 : decode cX6_ware 22 = .ok (.ireturn, 1) := by decide +kernel
theorem dX6_ware_23 : decode cX6_ware 23 = .ok (.aload_n 0, 1) := by decide +kernel
theorem dX6_ware_24 : decode cX6_ware 24 = .ok (.getfield 10, 3) := by decide +kernel
theorem dX6_ware_27 : decode cX6_ware 27 = .ok (.getfield 173, 3) := by decide +kernel
theorem dX6_ware_30 : decode cX6_ware 30 = .ok (.bipush 8, 2) := by decide +kernel
theorem dX6_ware_32 : decode cX6_ware 32 = .ok (.if_icmp .lt 6, 3) := by decide +kernel
theorem dX6_ware_35 : decode cX6_ware 35 = .ok (.bipush (-3), 2) := by decide +kernel
theorem dX6_ware_37 : decode cX6_ware 37 = .ok (.ireturn, 1) := by decide +kernel
theorem dX6_ware_38 : decode cX6_ware 38 = .ok (.aload_n 0, 1) := by decide +kernel
theorem dX6_ware_39 : decode cX6_ware 39 = .ok (.getfield 10, 3) := by decide +kernel
theorem dX6_ware_42 : decode cX6_ware 42 = .ok (.getfield 246, 3) := by decide +kernel
theorem dX6_ware_45 : decode cX6_ware 45 = .ok (.aload_n 0, 1) := by decide +kernel
theorem dX6_ware_46 : decode cX6_ware 46 = .ok (.getfield 10, 3) := by decide +kernel
theorem dX6_ware_49 : decode cX6_ware 49 = .ok (.getfield 173, 3) := by decide +kernel
theorem dX6_ware_52 : decode cX6_ware 52 = .ok (.iload_n 1, 1) := by decide +kernel
theorem dX6_ware_53 : decode cX6_ware 53 = .ok (.iastore, 1) := by decide +kernel
theorem dX6_ware_54 : decode cX6_ware 54 = .ok (.aload_n 0, 1) := by decide +kernel
theorem dX6_ware_55 : decode cX6_ware 55 = .ok (.getfield 10, 3) := by decide +kernel
theorem dX6_ware_58 : decode cX6_ware 58 = .ok (.getfield 249, 3) := by decide +kernel
theorem dX6_ware_61 : decode cX6_ware 61 = .ok (.aload_n 0, 1) := by decide +kernel
theorem dX6_ware_62 : decode cX6_ware 62 = .ok (.getfield 10, 3) := by decide +kernel
theorem dX6_ware_65 : decode cX6_ware 65 = .ok (.getfield 173, 3) := by decide +kernel
theorem dX6_ware_68 : decode cX6_ware 68 = .ok (.iload_n 2, 1) := by decide +kernel
theorem dX6_ware_69 : decode cX6_ware 69 = .ok (.iastore, 1) := by decide +kernel
theorem dX6_ware_70 : decode cX6_ware 70 = .ok (.aload_n 0, 1) := by decide +kernel
theorem dX6_ware_71 : decode cX6_ware 71 = .ok (.getfield 10, 3) := by decide +kernel
theorem dX6_ware_74 : decode cX6_ware 74 = .ok (.dup, 1) := by decide +kernel
theorem dX6_ware_75 : decode cX6_ware 75 = .ok (.getfield 173, 3) := by decide +kernel
theorem dX6_ware_78 : decode cX6_ware 78 = .ok (.iconst 1, 1) := by decide +kernel
theorem dX6_ware_79 : decode cX6_ware 79 = .ok (.iadd, 1) := by decide +kernel
theorem dX6_ware_80 : decode cX6_ware 80 = .ok (.putfield 173, 3) := by decide +kernel
theorem dX6_ware_83 : decode cX6_ware 83 = .ok (.aload_n 0, 1) := by decide +kernel
theorem dX6_ware_84 : decode cX6_ware 84 = .ok (.getfield 10, 3) := by decide +kernel
theorem dX6_ware_87 : decode cX6_ware 87 = .ok (.getfield 173, 3) := by decide +kernel
theorem dX6_ware_90 : decode cX6_ware 90 = .ok (.iconst 1, 1) := by decide +kernel
theorem dX6_ware_91 : decode cX6_ware 91 = .ok (.isub, 1) := by decide +kernel
theorem dX6_ware_92 : decode cX6_ware 92 = .ok (.ireturn, 1) := by decide +kernel
theorem dX6_under_0 : decode cX6_under 0 = .ok (.iload_n 1, 1) := by decide +kernel
theorem dX6_under_1 : decode cX6_under 1 = .ok (.iconst 0, 1) := by decide +kernel
theorem dX6_under_2 : decode cX6_under 2 = .ok (.aload_n 0, 1) := by decide +kernel
theorem dX6_under_3 : decode cX6_under 3 = .ok (.getfield 10, 3) := by decide +kernel
theorem dX6_under_6 : decode cX6_under 6 = .ok (.getfield 173, 3) := by decide +kernel
theorem dX6_under_9 : decode cX6_under 9 = .ok (.iconst 1, 1) := by decide +kernel
theorem dX6_under_10 : decode cX6_under 10 = .ok (.isub, 1) := by decide +kernel
theorem dX6_under_11 : decode cX6_under 11 = .ok (.invokestatic 61, 3) := by decide +kernel
theorem dX6_under_14 : decode cX6_under 14 = .ok (.ifCond .eq 33, 3) := by decide +kernel
theorem dX6_under_17 : decode cX6_under 17 = .ok (.iload_n 2, 1) := by decide +kernel
theorem dX6_under_18 : decode cX6_under 18 = .ok (.iconst 1, 1) := by decide +kernel
theorem dX6_under_19 : decode cX6_under 19 = .ok (.bipush 99, 2) := by decide +kernel
theorem dX6_under_21 : decode cX6_under 21 = .ok (.invokestatic 61, 3) := by decide +kernel
theorem dX6_under_24 : decode cX6_under 24 = .ok (.ifCond .eq 23, 3) := by decide +kernel
theorem dX6_under_27 : decode cX6_under 27 = .ok (.iload_n 3, 1) := by decide +kernel
theorem dX6_under_28 : decode cX6_under 28 = .ok (.iconst 1, 1) := by decide +kernel
theorem dX6_under_29 : decode cX6_under 29 = .ok (.ldc 252, 2) := by decide +kernel
theorem dX6_under_31 : decode cX6_under 31 = .ok (.invokestatic 61, 3) := by decide +kernel
theorem dX6_under_34 : decode cX6_under 34 = .ok (.ifCond .eq 13, 3) := by decide +kernel
theorem dX6_under_37 : decode cX6_under 37 = .ok (.iload 4, 2) := by decide +kernel
theorem dX6_under_39 : decode cX6_under 39 = .ok (.iconst 0, 1) := by decide +kernel
theorem dX6_under_40 : decode cX6_under 40 = .ok (.iconst 1, 1) := by decide +kernel
theorem dX6_under_41 : decode cX6_under 41 = .ok (.invokestatic 61, 3) := by decide +kernel
theorem dX6_under_44 : decode cX6_under 44 = .ok (.ifCond .ne 5, 3) := by decide +kernel
theorem dX6_under_47 : decode cX6_under 47 = .ok (.iconst (-1), 1) := by decide +kernel
theorem dX6_under_48 : decode cX6_under 48 = .ok (.ireturn, 1) := by decide +kernel
theorem dX6_under_49 : decode cX6_under 49 = .ok (.iconst 0, 1) := by decide +kernel
theorem dX6_under_50 : decode cX6_under 50 = .ok (.istore 5, 2) := by decide +kernel
theorem dX6_under_52 : decode cX6_under 52 = .ok (.bipush (-4), 2) := by decide +kernel
theorem dX6_under_54 : decode cX6_under 54 = .ok (.istore 6, 2) := by decide +kernel
theorem dX6_under_56 : decode cX6_under 56 = .ok (.iconst 1, 1) := by decide +kernel
theorem dX6_under_57 : decode cX6_under 57 = .ok (.aload_n 0, 1) := by decide +kernel
theorem dX6_under_58 : decode cX6_under 58 = .ok (.getfield 10, 3) := by decide +kernel
theorem dX6_under_61 : decode cX6_under 61 = .ok (.getfield 173, 3) := by decide +kernel
theorem dX6_under_64 : decode cX6_under 64 = .ok (.ishl, 1) := by decide +kernel
theorem dX6_under_65 : decode cX6_under 65 = .ok (.iconst 1, 1) := by decide +kernel
theorem dX6_under_66 : decode cX6_under 66 = .ok (.isub, 1) := by decide +kernel
theorem dX6_under_67 : decode cX6_under 67 = .ok (.istore 7, 2) := by decide +kernel
theorem dX6_under_69 : decode cX6_under 69 = .ok (.iload 7, 2) := by decide +kernel
theorem dX6_under_71 : decode cX6_under 71 = .ok (.ifCond .le 39, 3) := by decide +kernel
theorem dX6_under_74 : decode cX6_under 74 = .ok (.iload 7, 2) := by decide +kernel
theorem dX6_under_76 : decode cX6_under 76 = .ok (.iload_n 1, 1) := by decide +kernel
theorem dX6_under_77 : decode cX6_under 77 = .ok (.invokestatic 253, 3) := by decide +kernel
theorem dX6_under_80 : decode cX6_under 80 = .ok (.ifCond .eq 24, 3) := by decide +kernel
theorem dX6_under_83 : decode cX6_under 83 = .ok (.aload_n 0, 1) := by decide +kernel
theorem dX6_under_84 : decode cX6_under 84 = .ok (.getfield 10, 3) := by decide +kernel
theorem dX6_under_87 : decode cX6_under 87 = .ok (.iload 7, 2) := by decide +kernel
theorem dX6_under_89 : decode cX6_under 89 = .ok (.iload_n 2, 1) := by decide +kernel
theorem dX6_under_90 : decode cX6_under 90 = .ok (.iload_n 3, 1) := by decide +kernel
theorem dX6_under_91 : decode cX6_under 91 = .ok (.invokevirtual 256, 3) := by decide +kernel
theorem dX6_under_94 : decode cX6_under 94 = .ok (.ifCond .eq 10, 3) := by decide +kernel
theorem dX6_under_97 : decode cX6_under 97 = .ok (.iinc 5 1, 3) := by decide +kernel
theorem dX6_under_100 : decode cX6_under 100 = .ok (.iload 7, 2) := by decide +kernel
theorem dX6_under_102 : decode cX6_under 102 = .ok (.istore 6, 2) := by decide +kernel
theorem dX6_under_104 : decode cX6_under 104 = .ok (.iinc 7 (-1), 3) := by decide +kernel
theorem dX6_under_107 : decode cX6_under 107 = .ok (.goto (-38), 3) := by decide +kernel
theorem dX6_under_110 : decode cX6_under 110 = .ok (.iload 4, 2) := by decide +kernel
theorem dX6_under_112 : decode cX6_under 112 = .ok (.ifCond .ne 8, 3) := by decide +kernel
theorem dX6_under_115 : decode cX6_under 115 = .ok (.iload 5, 2) := by decide +kernel
theorem dX6_under_117 : decode cX6_under 117 = .ok (.goto 5, 3) := by decide +kernel
theorem dX6_under_120 : decode cX6_under 120 = .ok (.iload 6, 2) := by decide +kernel
theorem dX6_under_122 : decode cX6_under 122 = .ok (.ireturn, 1) := by decide +kernel
theorem dX6_image_0 : decode cX6_image 0 = .ok (.aload_n 0, 1) := by decide +kernel
theorem dX6_image_1 : decode cX6_image 1 = .ok (.getfield 16, 3) := by decide +kernel
theorem dX6_image_4 : decode cX6_image 4 = .ok (.aload_n 0, 1) := by decide +kernel
theorem dX6_image_5 : decode cX6_image 5 = .ok (.getfield 10, 3) := by decide +kernel
theorem dX6_image_8 : decode cX6_image 8 = .ok (.invokevirtual 259, 3) := by decide +kernel
theorem dX6_image_11 : decode cX6_image 11 = .ok (.aload_n 0, 1) := by decide +kernel
theorem dX6_image_12 : decode cX6_image 12 = .ok (.iconst 1, 1) := by decide +kernel
theorem dX6_image_13 : decode cX6_image 13 = .ok (.putfield 57, 3) := by decide +kernel
theorem dX6_image_16 : decode cX6_image 16 = .ok (.iconst 1, 1) := by decide +kernel
theorem dX6_image_17 : decode cX6_image 17 = .ok (.ireturn, 1) := by decide +kernel
theorem dX6_restore_0 : decode cX6_restore 0 = .ok (.aload_n 0, 1) := by decide +kernel
theorem dX6_restore_1 : decode cX6_restore 1 = .ok (.getfield 57, 3) := by decide +kernel
theorem dX6_restore_4 : decode cX6_restore 4 = .ok (.ifCond .ne 6, 3) := by decide +kernel
theorem dX6_restore_7 : decode cX6_restore 7 = .ok (.bipush (-4), 2) := by decide +kernel
theorem dX6_restore_9 : decode cX6_restore 9 = .ok (.ireturn, 1) := by decide +kernel
theorem dX6_restore_10 : decode cX6_restore 10 = .ok (.aload_n 0, 1) := by decide +kernel
theorem dX6_restore_11 : decode cX6_restore 11 = .ok (.getfield 10, 3) := by decide +kernel
theorem dX6_restore_14 : decode cX6_restore 14 = .ok (.aload_n 0, 1) := by decide +kernel
theorem dX6_restore_15 : decode cX6_restore 15 = .ok (.getfield 16, 3) := by decide +kernel
theorem dX6_restore_18 : decode cX6_restore 18 = .ok (.invokevirtual 259, 3) := by decide +kernel
theorem dX6_restore_21 : decode cX6_restore 21 = .ok (.iconst 1, 1) := by decide +kernel
theorem dX6_restore_22 : decode cX6_restore 22 = .ok (.ireturn, 1) := by decide +kernel
theorem dX6_judged_0 : decode cX6_judged 0 = .ok (.iload_n 1, 1) := by decide +kernel
theorem dX6_judged_1 : decode cX6_judged 1 = .ok (.invokestatic 261, 3) := by decide +kernel
theorem dX6_judged_4 : decode cX6_judged 4 = .ok (.ifCond .eq 21, 3) := by decide +kernel
theorem dX6_judged_7 : decode cX6_judged 7 = .ok (.iload_n 2, 1) := by decide +kernel
theorem dX6_judged_8 : decode cX6_judged 8 = .ok (.invokestatic 264, 3) := by decide +kernel
theorem dX6_judged_11 : decode cX6_judged 11 = .ok (.ifCond .eq 14, 3) := by decide +kernel
theorem dX6_judged_14 : decode cX6_judged 14 = .ok (.iload 4, 2) := by decide +kernel
theorem dX6_judged_16 : decode cX6_judged 16 = .ok (.iconst 1, 1) := by decide +kernel
theorem dX6_judged_17 : decode cX6_judged 17 = .ok (.bipush 8, 2) := by decide +kernel
theorem dX6_judged_19 : decode cX6_judged 19 = .ok (.invokestatic 61, 3) := by decide +kernel
theorem dX6_judged_22 : decode cX6_judged 22 = .ok (.ifCond .ne 5, 3) := by decide +kernel
theorem dX6_judged_25 : decode cX6_judged 25 = .ok (.iconst (-1), 1) := by decide +kernel
theorem dX6_judged_26 : decode cX6_judged 26 = .ok (.ireturn, 1) := by decide +kernel
theorem dX6_judged_27 : decode cX6_judged 27 = .ok (.aload_n 0, 1) := by decide +kernel
theorem dX6_judged_28 : decode cX6_judged 28 = .ok (.getfield 52, 3) := by decide +kernel
theorem dX6_judged_31 : decode cX6_judged 31 = .ok (.iload_n 1, 1) := by decide +kernel
theorem dX6_judged_32 : decode cX6_judged 32 = .ok (.aaload, 1) := by decide +kernel
theorem dX6_judged_33 : decode cX6_judged 33 = .ok (.astore 5, 2) := by decide +kernel
theorem dX6_judged_35 : decode cX6_judged 35 = .ok (.aload 5, 2) := by decide +kernel
theorem dX6_judged_37 : decode cX6_judged 37 = .ok (.iload_n 2, 1) := by decide +kernel
theorem dX6_judged_38 : decode cX6_judged 38 = .ok (.iload_n 3, 1) := by decide +kernel
theorem dX6_judged_39 : decode cX6_judged 39 = .ok (.iconst 3, 1) := by decide +kernel
theorem dX6_judged_40 : decode cX6_judged 40 = .ok (.iload 4, 2) := by decide +kernel
theorem dX6_judged_42 : decode cX6_judged 42 = .ok (.imul, 1) := by decide +kernel
theorem dX6_judged_43 : decode cX6_judged 43 = .ok (.invokevirtual 267, 3) := by decide +kernel
theorem dX6_judged_46 : decode cX6_judged 46 = .ok (.istore 6, 2) := by decide +kernel
theorem dX6_judged_48 : decode cX6_judged 48 = .ok (.iload 6, 2) := by decide +kernel
theorem dX6_judged_50 : decode cX6_judged 50 = .ok (.ifCond .eq 6, 3) := by decide +kernel
theorem dX6_judged_53 : decode cX6_judged 53 = .ok (.iload 6, 2) := by decide +kernel
theorem dX6_judged_55 : decode cX6_judged 55 = .ok (.ireturn, 1) := by decide +kernel
theorem dX6_judged_56 : decode cX6_judged 56 = .ok (.aload_n 0, 1) := by decide +kernel
theorem dX6_judged_57 : decode cX6_judged 57 = .ok (.getfield 19, 3) := by decide +kernel
theorem dX6_judged_60 : decode cX6_judged 60 = .ok (.aload_n 0, 1) := by decide +kernel
theorem dX6_judged_61 : decode cX6_judged 61 = .ok (.getfield 10, 3) := by decide +kernel
theorem dX6_judged_64 : decode cX6_judged 64 = .ok (.invokevirtual 259, 3) := by decide +kernel
theorem dX6_judged_67 : decode cX6_judged 67 = .ok (.iconst 0, 1) := by decide +kernel
theorem dX6_judged_68 : decode cX6_judged 68 = .ok (.istore 7, 2) := by decide +kernel
theorem dX6_judged_70 : decode cX6_judged 70 = .ok (.iload 7, 2) := by decide +kernel
theorem dX6_judged_72 : decode cX6_judged 72 = .ok (.iload 4, 2) := by decide +kernel
theorem dX6_judged_74 : decode cX6_judged 74 = .ok (.if_icmp .ge 58, 3) := by decide +kernel
theorem dX6_judged_77 : decode cX6_judged 77 = .ok (.iload_n 3, 1) := by decide +kernel
theorem dX6_judged_78 : decode cX6_judged 78 = .ok (.iconst 3, 1) := by decide +kernel
theorem dX6_judged_79 : decode cX6_judged 79 = .ok (.iload 7, 2) := by decide +kernel
theorem dX6_judged_81 : decode cX6_judged 81 = .ok (.imul, 1) := by decide +kernel
theorem dX6_judged_82 : decode cX6_judged 82 = .ok (.iadd, 1) := by decide +kernel
theorem dX6_judged_83 : decode cX6_judged 83 = .ok (.istore 8, 2) := by decide +kernel
theorem dX6_judged_85 : decode cX6_judged 85 = .ok (.aload_n 0, 1) := by decide +kernel
theorem dX6_judged_86 : decode cX6_judged 86 = .ok (.getfield 19, 3) := by decide +kernel
theorem dX6_judged_89 : decode cX6_judged 89 = .ok (.aload 5, 2) := by decide +kernel
theorem dX6_judged_91 : decode cX6_judged 91 = .ok (.getfield 271, 3) := by decide +kernel
theorem dX6_judged_94 : decode cX6_judged 94 = .ok (.iload 8, 2) := by decide +kernel
theorem dX6_judged_96 : decode cX6_judged 96 = .ok (.iaload, 1) := by decide +kernel
theorem dX6_judged_97 : decode cX6_judged 97 = .ok (.aload 5, 2) := by decide +kernel
theorem dX6_judged_99 : decode cX6_judged 99 = .ok (.getfield 271, 3) := by decide +kernel
theorem dX6_judged_102 : decode cX6_judged 102 = .ok (.iload 8, 2) := by decide +kernel
theorem dX6_judged_104 : decode cX6_judged 104 = .ok (.iconst 1, 1) := by decide +kernel
theorem dX6_judged_105 : decode cX6_judged 105 = .ok (.iadd, 1) := by decide +kernel
theorem dX6_judged_106 : decode cX6_judged 106 = .ok (.iaload, 1) := by decide +kernel
theorem dX6_judged_107 : decode cX6_judged 107 = .ok (.aload 5, 2) := by decide +kernel
theorem dX6_judged_109 : decode cX6_judged 109 = .ok (.getfield 271, 3) := by decide +kernel
theorem dX6_judged_112 : decode cX6_judged 112 = .ok (.iload 8, 2) := by decide +kernel
theorem dX6_judged_114 : decode cX6_judged 114 = .ok (.iconst 2, 1) := by decide +kernel
theorem dX6_judged_115 : decode cX6_judged 115 = .ok (.iadd, 1) := by decide +kernel
theorem dX6_judged_116 : decode cX6_judged 116 = .ok (.iaload, 1) := by decide +kernel
theorem dX6_judged_117 : decode cX6_judged 117 = .ok (.invokevirtual 274, 3) := by decide +kernel
theorem dX6_judged_120 : decode cX6_judged 120 = .ok (.ifCond .ne 6, 3) := by decide +kernel
theorem dX6_judged_123 : decode cX6_judged 123 = .ok (.iload 7, 2) := by decide +kernel
theorem dX6_judged_125 : decode cX6_judged 125 = .ok (.ireturn, 1) := by decide +kernel
theorem dX6_judged_126 : decode cX6_judged 126 = .ok (.iinc 7 1, 3) := by decide +kernel
theorem dX6_judged_129 : decode cX6_judged 129 = .ok (.goto (-59), 3) := by decide +kernel
theorem dX6_judged_132 : decode cX6_judged 132 = .ok (.bipush (-4), 2) := by decide +kernel
theorem dX6_judged_134 : decode cX6_judged 134 = .ok (.ireturn, 1) := by decide +kernel
theorem dX6_sheet_0 : decode cX6_sheet 0 = .ok (.iload_n 1, 1) := by decide +kernel
theorem dX6_sheet_1 : decode cX6_sheet 1 = .ok (.invokestatic 261, 3) := by decide +kernel
theorem dX6_sheet_4 : decode cX6_sheet 4 = .ok (.ifCond .eq 16, 3) := by decide +kernel
theorem dX6_sheet_7 : decode cX6_sheet 7 = .ok (.iload_n 2, 1) := by decide +kernel
theorem dX6_sheet_8 : decode cX6_sheet 8 = .ok (.invokestatic 264, 3) := by decide +kernel
theorem dX6_sheet_11 : decode cX6_sheet 11 = .ok (.ifCond .eq 9, 3) := by decide +kernel
theorem dX6_sheet_14 : decode cX6_sheet 14 = .ok (.iload_n 3, 1) := by decide +kernel
theorem dX6_sheet_15 : decode cX6_sheet 15 = .ok (.bipush 24, 2) := by decide +kernel
theorem dX6_sheet_17 : decode cX6_sheet 17 = .ok (.if_icmp .le 5, 3) := by decide +kernel
theorem dX6_sheet_20 : decode cX6_sheet 20 = .ok (.iconst (-1), 1) := by decide +kernel
theorem dX6_sheet_21 : decode cX6_sheet 21 = .ok (.ireturn, 1) := by decide +kernel
theorem dX6_sheet_22 : decode cX6_sheet 22 = .ok (.iload_n 3, 1) := by decide +kernel
theorem dX6_sheet_23 : decode cX6_sheet 23 = .ok (.ifCond .ge 6, 3) := by decide +kernel
theorem dX6_sheet_26 : decode cX6_sheet 26 = .ok (.bipush (-14), 2) := by decide +kernel
theorem dX6_sheet_28 : decode cX6_sheet 28 = .ok (.ireturn, 1) := by decide +kernel
theorem dX6_sheet_29 : decode cX6_sheet 29 = .ok (.aload_n 0, 1) := by decide +kernel
theorem dX6_sheet_30 : decode cX6_sheet 30 = .ok (.getfield 52, 3) := by decide +kernel
theorem dX6_sheet_33 : decode cX6_sheet 33 = .ok (.iload_n 1, 1) := by decide +kernel
theorem dX6_sheet_34 : decode cX6_sheet 34 = .ok (.aaload, 1) := by decide +kernel
theorem dX6_sheet_35 : decode cX6_sheet 35 = .ok (.iload_n 2, 1) := by decide +kernel
theorem dX6_sheet_36 : decode cX6_sheet 36 = .ok (.iload_n 3, 1) := by decide +kernel
theorem dX6_sheet_37 : decode cX6_sheet 37 = .ok (.invokevirtual 277, 3) := by decide +kernel
theorem dX6_sheet_40 : decode cX6_sheet 40 = .ok (.iload_n 3, 1) := by decide +kernel
theorem dX6_sheet_41 : decode cX6_sheet 41 = .ok (.ireturn, 1) := by decide +kernel
theorem dX6_drop_0 : decode cX6_drop 0 = .ok (.iload_n 1, 1) := by decide +kernel
theorem dX6_drop_1 : decode cX6_drop 1 = .ok (.invokestatic 261, 3) := by decide +kernel
theorem dX6_drop_4 : decode cX6_drop 4 = .ok (.ifCond .ne 5, 3) := by decide +kernel
theorem dX6_drop_7 : decode cX6_drop 7 = .ok (.iconst (-1), 1) := by decide +kernel
theorem dX6_drop_8 : decode cX6_drop 8 = .ok (.ireturn, 1) := by decide +kernel
theorem dX6_drop_9 : decode cX6_drop 9 = .ok (.aload_n 0, 1) := by decide +kernel
theorem dX6_drop_10 : decode cX6_drop 10 = .ok (.getfield 52, 3) := by decide +kernel
theorem dX6_drop_13 : decode cX6_drop 13 = .ok (.iload_n 1, 1) := by decide +kernel
theorem dX6_drop_14 : decode cX6_drop 14 = .ok (.aaload, 1) := by decide +kernel
theorem dX6_drop_15 : decode cX6_drop 15 = .ok (.astore_n 2, 1) := by decide +kernel
theorem dX6_drop_16 : decode cX6_drop 16 = .ok (.aload_n 2, 1) := by decide +kernel
theorem dX6_drop_17 : decode cX6_drop 17 = .ok (.getfield 280, 3) := by decide +kernel
theorem dX6_drop_20 : decode cX6_drop 20 = .ok (.ifCond .ne 6, 3) := by decide +kernel
theorem dX6_drop_23 : decode cX6_drop 23 = .ok (.bipush (-11), 2) := by decide +kernel
theorem dX6_drop_25 : decode cX6_drop 25 = .ok (.ireturn, 1) := by decide +kernel
theorem dX6_drop_26 : decode cX6_drop 26 = .ok (.aload_n 2, 1) := by decide +kernel
theorem dX6_drop_27 : decode cX6_drop 27 = .ok (.iconst 0, 1) := by decide +kernel
theorem dX6_drop_28 : decode cX6_drop 28 = .ok (.putfield 280, 3) := by decide +kernel
theorem dX6_drop_31 : decode cX6_drop 31 = .ok (.aload_n 2, 1) := by decide +kernel
theorem dX6_drop_32 : decode cX6_drop 32 = .ok (.getfield 283, 3) := by decide +kernel
theorem dX6_drop_35 : decode cX6_drop 35 = .ok (.ireturn, 1) := by decide +kernel
theorem dX6_item_0 : decode cX6_item 0 = .ok (.iload_n 1, 1) := by decide +kernel
theorem dX6_item_1 : decode cX6_item 1 = .ok (.invokestatic 261, 3) := by decide +kernel
theorem dX6_item_4 : decode cX6_item 4 = .ok (.ifCond .eq 10, 3) := by decide +kernel
theorem dX6_item_7 : decode cX6_item 7 = .ok (.iload_n 2, 1) := by decide +kernel
theorem dX6_item_8 : decode cX6_item 8 = .ok (.invokestatic 264, 3) := by decide +kernel
theorem dX6_item_11 : decode cX6_item 11 = .ok (.ifCond .ne 5, 3) := by decide +kernel
theorem dX6_item_14 : decode cX6_item 14 = .ok (.iconst (-1), 1) := by decide +kernel
theorem dX6_item_15 : decode cX6_item 15 = .ok (.ireturn, 1) := by decide +kernel
theorem dX6_item_16 : decode cX6_item 16 = .ok (.aload_n 0, 1) := by decide +kernel
theorem dX6_item_17 : decode cX6_item 17 = .ok (.getfield 52, 3) := by decide +kernel
theorem dX6_item_20 : decode cX6_item 20 = .ok (.iload_n 1, 1) := by decide +kernel
theorem dX6_item_21 : decode cX6_item 21 = .ok (.aaload, 1) := by decide +kernel
theorem dX6_item_22 : decode cX6_item 22 = .ok (.astore 5, 2) := by decide +kernel
theorem dX6_item_24 : decode cX6_item 24 = .ok (.aload 5, 2) := by decide +kernel
theorem dX6_item_26 : decode cX6_item 26 = .ok (.iload_n 2, 1) := by decide +kernel
theorem dX6_item_27 : decode cX6_item 27 = .ok (.iload_n 3, 1) := by decide +kernel
theorem dX6_item_28 : decode cX6_item 28 = .ok (.iconst 1, 1) := by decide +kernel
theorem dX6_item_29 : decode cX6_item 29 = .ok (.invokevirtual 267, 3) := by decide +kernel
theorem dX6_item_32 : decode cX6_item 32 = .ok (.istore 6, 2) := by decide +kernel
theorem dX6_item_34 : decode cX6_item 34 = .ok (.iload 6, 2) := by decide +kernel
theorem dX6_item_36 : decode cX6_item 36 = .ok (.ifCond .eq 6, 3) := by decide +kernel
theorem dX6_item_39 : decode cX6_item 39 = .ok (.iload 6, 2) := by decide +kernel
theorem dX6_item_41 : decode cX6_item 41 = .ok (.ireturn, 1) := by decide +kernel
theorem dX6_item_42 : decode cX6_item 42 = .ok (.aload 5, 2) := by decide +kernel
theorem dX6_item_44 : decode cX6_item 44 = .ok (.getfield 271, 3) := by decide +kernel
theorem dX6_item_47 : decode cX6_item 47 = .ok (.iload_n 3, 1) := by decide +kernel
theorem dX6_item_48 : decode cX6_item 48 = .ok (.iload_n 2, 1) := by decide +kernel
theorem dX6_item_49 : decode cX6_item 49 = .ok (.iload 4, 2) := by decide +kernel
theorem dX6_item_51 : decode cX6_item 51 = .ok (.invokestatic 284, 3) := by decide +kernel
theorem dX6_item_54 : decode cX6_item 54 = .ok (.iastore, 1) := by decide +kernel
theorem dX6_item_55 : decode cX6_item 55 = .ok (.iconst 1, 1) := by decide +kernel
theorem dX6_item_56 : decode cX6_item 56 = .ok (.ireturn, 1) := by decide +kernel
theorem dX6_copy_0 : decode cX6_copy 0 = .ok (.iload_n 1, 1) := by decide +kernel
theorem dX6_copy_1 : decode cX6_copy 1 = .ok (.invokestatic 261, 3) := by decide +kernel
theorem dX6_copy_4 : decode cX6_copy 4 = .ok (.ifCond .eq 10, 3) := by decide +kernel
theorem dX6_copy_7 : decode cX6_copy 7 = .ok (.iload_n 3, 1) := by decide +kernel
theorem dX6_copy_8 : decode cX6_copy 8 = .ok (.invokestatic 261, 3) := by decide +kernel
theorem dX6_copy_11 : decode cX6_copy 11 = .ok (.ifCond .ne 5, 3) := by decide +kernel
theorem dX6_copy_14 : decode cX6_copy 14 = .ok (.iconst (-1), 1) := by decide +kernel
theorem dX6_copy_15 : decode cX6_copy 15 = .ok (.ireturn, 1) := by decide +kernel
theorem dX6_copy_16 : decode cX6_copy 16 = .ok (.aload_n 0, 1) := by decide +kernel
theorem dX6_copy_17 : decode cX6_copy 17 = .ok (.getfield 52, 3) := by decide +kernel
theorem dX6_copy_20 : decode cX6_copy 20 = .ok (.iload_n 1, 1) := by decide +kernel
theorem dX6_copy_21 : decode cX6_copy 21 = .ok (.aaload, 1) := by decide +kernel
theorem dX6_copy_22 : decode cX6_copy 22 = .ok (.astore 6, 2) := by decide +kernel
theorem dX6_copy_24 : decode cX6_copy 24 = .ok (.aload_n 0, 1) := by decide +kernel
theorem dX6_copy_25 : decode cX6_copy 25 = .ok (.getfield 52, 3) := by decide +kernel
theorem dX6_copy_28 : decode cX6_copy 28 = .ok (.iload_n 3, 1) := by decide +kernel
theorem dX6_copy_29 : decode cX6_copy 29 = .ok (.aaload, 1) := by decide +kernel
theorem dX6_copy_30 : decode cX6_copy 30 = .ok (.astore 7, 2) := by decide +kernel
theorem dX6_copy_32 : decode cX6_copy 32 = .ok (.aload 6, 2) := by decide +kernel
theorem dX6_copy_34 : decode cX6_copy 34 = .ok (.getfield 280, 3) := by decide +kernel
theorem dX6_copy_37 : decode cX6_copy 37 = .ok (.ifCond .eq 11, 3) := by decide +kernel
theorem dX6_copy_40 : decode cX6_copy 40 = .ok (.aload 7, 2) := by decide +kernel
theorem dX6_copy_42 : decode cX6_copy 42 = .ok (.getfield 280, 3) := by decide +kernel
theorem dX6_copy_45 : decode cX6_copy 45 = .ok (.ifCond .ne 6, 3) := by decide +kernel
theorem dX6_copy_48 : decode cX6_copy 48 = .ok (.bipush (-11), 2) := by decide +kernel
theorem dX6_copy_50 : decode cX6_copy 50 = .ok (.ireturn, 1) := by decide +kernel
theorem dX6_copy_51 : decode cX6_copy 51 = .ok (.aload 6, 2) := by decide +kernel
theorem dX6_copy_53 : decode cX6_copy 53 = .ok (.getfield 287, 3) := by decide +kernel
theorem dX6_copy_56 : decode cX6_copy 56 = .ok (.aload 7, 2) := by decide +kernel
theorem dX6_copy_58 : decode cX6_copy 58 = .ok (.getfield 287, 3) := by decide +kernel
theorem dX6_copy_61 : decode cX6_copy 61 = .ok (.if_icmp .eq 6, 3) := by decide +kernel
theorem dX6_copy_64 : decode cX6_copy 64 = .ok (.bipush (-12), 2) := by decide +kernel
theorem dX6_copy_66 : decode cX6_copy 66 = .ok (.ireturn, 1) := by decide +kernel
theorem dX6_copy_67 : decode cX6_copy 67 = .ok (.aload 6, 2) := by decide +kernel
theorem dX6_copy_69 : decode cX6_copy 69 = .ok (.iload_n 2, 1) := by decide +kernel
theorem dX6_copy_70 : decode cX6_copy 70 = .ok (.iload 5, 2) := by decide +kernel
theorem dX6_copy_72 : decode cX6_copy 72 = .ok (.invokevirtual 290, 3) := by decide +kernel
theorem dX6_copy_75 : decode cX6_copy 75 = .ok (.ifCond .eq 15, 3) := by decide +kernel
theorem dX6_copy_78 : decode cX6_copy 78 = .ok (.aload 7, 2) := by decide +kernel
theorem dX6_copy_80 : decode cX6_copy 80 = .ok (.iload 4, 2) := by decide +kernel
theorem dX6_copy_82 : decode cX6_copy 82 = .ok (.iload 5, 2) := by decide +kernel
theorem dX6_copy_84 : decode cX6_copy 84 = .ok (.invokevirtual 290, 3) := by decide +kernel
theorem dX6_copy_87 : decode cX6_copy 87 = .ok (.ifCond .ne 6, 3) := by decide +kernel
theorem dX6_copy_90 : decode cX6_copy 90 = .ok (.bipush (-13), 2) := by decide +kernel
theorem dX6_copy_92 : decode cX6_copy 92 = .ok (.ireturn, 1) := by decide +kernel
theorem dX6_copy_93 : decode cX6_copy 93 = .ok (.aload 6, 2) := by decide +kernel
theorem dX6_copy_95 : decode cX6_copy 95 = .ok (.getfield 271, 3) := by decide +kernel
theorem dX6_copy_98 : decode cX6_copy 98 = .ok (.iload_n 2, 1) := by decide +kernel
theorem dX6_copy_99 : decode cX6_copy 99 = .ok (.aload 7, 2) := by decide +kernel
theorem dX6_copy_101 : decode cX6_copy 101 = .ok (.getfield 271, 3) := by decide +kernel
theorem dX6_copy_104 : decode cX6_copy 104 = .ok (.iload 4, 2) := by decide +kernel
theorem dX6_copy_106 : decode cX6_copy 106 = .ok (.iload 5, 2) := by decide +kernel
theorem dX6_copy_108 : decode cX6_copy 108 = .ok (.invokestatic 293, 3) := by decide +kernel
theorem dX6_copy_111 : decode cX6_copy 111 = .ok (.iload 5, 2) := by decide +kernel
theorem dX6_copy_113 : decode cX6_copy 113 = .ok (.ireturn, 1) := by decide +kernel
