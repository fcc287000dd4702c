theorem dX7_in_0 : decode cX7_in 0 = .ok (.lload_n 0, 1) := by decide +kernel
theorem dX7_in_1 : decode cX7_in 1 = .ok (.lload_n 2, 1) := by decide +kernel
theorem dX7_in_2 : decode cX7_in 2 = .ok (.lcmp, 1) := by decide +kernel
theorem dX7_in_3 : decode cX7_in 3 = .ok (.ifCond .lt 14, 3) := by decide +kernel
theorem dX7_in_6 : decode cX7_in 6 = .ok (.lload_n 0, 1) := by decide +kernel
theorem dX7_in_7 : decode cX7_in 7 = .ok (.lload 4, 2) := by decide +kernel
theorem dX7_in_9 : decode cX7_in 9 = .ok (.lcmp, 1) := by decide +kernel
theorem dX7_in_10 : decode cX7_in 10 = .ok (.ifCond .gt 7, 3) := by decide +kernel
theorem dX7_in_13 : decode cX7_in 13 = .ok (.iconst 1, 1) := by decide +kernel
theorem dX7_in_14 : decode cX7_in 14 = .ok (.goto 4, 3) := by decide +kernel
theorem dX7_in_17 : decode cX7_in 17 = .ok (.iconst 0, 1) := by decide +kernel
theorem dX7_in_18 : decode cX7_in 18 = .ok (.ireturn, 1) := by decide +kernel
theorem dX7_init_0 : decode cX7_init 0 = .ok (.aload_n 0, 1) := by decide +kernel
theorem dX7_init_1 : decode cX7_init 1 = .ok (.invokespecial 1, 3) := by decide +kernel
theorem dX7_init_4 : decode cX7_init 4 = .ok (.aload_n 0, 1) := by decide +kernel
theorem dX7_init_5 : decode cX7_init 5 = .ok (.sipush 200, 3) := by decide +kernel
theorem dX7_init_8 : decode cX7_init 8 = .ok (.newarray .int, 2) := by decide +kernel
theorem dX7_init_10 : decode cX7_init 10 = .ok (.putfield 7, 3) := by decide +kernel
theorem dX7_init_13 : decode cX7_init 13 = .ok (.aload_n 0, 1) := by decide +kernel
theorem dX7_init_14 : decode cX7_init 14 = .ok (.sipush 200, 3) := by decide +kernel
theorem dX7_init_17 : decode cX7_init 17 = .ok (.newarray .int, 2) := by decide +kernel
theorem dX7_init_19 : decode cX7_init 19 = .ok (.putfield 13, 3) := by decide +kernel
theorem dX7_init_22 : decode cX7_init 22 = .ok (.aload_n 0, 1) := by decide +kernel
theorem dX7_init_23 : decode cX7_init 23 = .ok (.aload_n 0, 1) := by decide +kernel
theorem dX7_init_24 : decode cX7_init 24 = .ok (.getfield 7, 3) := by decide +kernel
theorem dX7_init_27 : decode cX7_init 27 = .ok (.putfield 16, 3) := by decide +kernel
theorem dX7_init_30 : decode cX7_init 30 = .ok (.aload_n 0, 1) := by decide +kernel
theorem dX7_init_31 : decode cX7_init 31 = .ok (.bipush 25, 2) := by decide +kernel
theorem dX7_init_33 : decode cX7_init 33 = .ok (.newarray .int, 2) := by decide +kernel
theorem dX7_init_35 : decode cX7_init 35 = .ok (.putfield 19, 3) := by decide +kernel
theorem dX7_init_38 : decode cX7_init 38 = .ok (.aload_n 0, 1) := by decide +kernel
theorem dX7_init_39 : decode cX7_init 39 = .ok (.bipush 12, 2) := by decide +kernel
theorem dX7_init_41 : decode cX7_init 41 = .ok (.newarray .int, 2) := by decide +kernel
theorem dX7_init_43 : decode cX7_init 43 = .ok (.putfield 22, 3) := by decide +kernel
theorem dX7_init_46 : decode cX7_init 46 = .ok (.aload_n 0, 1) := by decide +kernel
theorem dX7_init_47 : decode cX7_init 47 = .ok (.iconst 2, 1) := by decide +kernel
theorem dX7_init_48 : decode cX7_init 48 = .ok (.newarray .int, 2) := by decide +kernel
theorem dX7_init_50 : decode cX7_init 50 = .ok (.putfield 25, 3) := by decide +kernel
theorem dX7_init_53 : decode cX7_init 53 = .ok (.aload_n 0, 1) := by decide +kernel
theorem dX7_init_54 : decode cX7_init 54 = .ok (.bipush 8, 2) := by decide +kernel
theorem dX7_init_56 : decode cX7_init 56 = .ok (.newarray .int, 2) := by decide +kernel
theorem dX7_init_58 : decode cX7_init 58 = .ok (.putfield 28, 3) := by decide +kernel
theorem dX7_init_61 : decode cX7_init 61 = .ok (.aload_n 0, 1) := by decide +kernel
theorem dX7_init_62 : decode cX7_init 62 = .ok (.bipush 8, 2) := by decide +kernel
theorem dX7_init_64 : decode cX7_init 64 = .ok (.newarray .int, 2) := by decide +kernel
theorem dX7_init_66 : decode cX7_init 66 = .ok (.putfield 31, 3) := by decide +kernel
theorem dX7_init_69 : decode cX7_init 69 = .ok (.aload_n 0, 1) := by decide +kernel
theorem dX7_init_70 : decode cX7_init 70 = .ok (.bipush 80, 2) := by decide +kernel
theorem dX7_init_72 : decode cX7_init 72 = .ok (.newarray .int, 2) := by decide +kernel
theorem dX7_init_74 : decode cX7_init 74 = .ok (.putfield 34, 3) := by decide +kernel
theorem dX7_init_77 : decode cX7_init 77 = .ok (.aload_n 0, 1) := by decide +kernel
theorem dX7_init_78 : decode cX7_init 78 = .ok (.bipush 24, 2) := by decide +kernel
theorem dX7_init_80 : decode cX7_init 80 = .ok (.newarray .int, 2) := by decide +kernel
theorem dX7_init_82 : decode cX7_init 82 = .ok (.putfield 37, 3) := by decide +kernel
theorem dX7_init_85 : decode cX7_init 85 = .ok (.aload_n 0, 1) := by decide +kernel
theorem dX7_init_86 : decode cX7_init 86 = .ok (.bipush 6, 2) := by decide +kernel
theorem dX7_init_88 : decode cX7_init 88 = .ok (.newarray .int, 2) := by decide +kernel
theorem dX7_init_90 : decode cX7_init 90 = .ok (.putfield 40, 3) := by decide +kernel
theorem dX7_init_93 : decode cX7_init 93 = .ok (.aload_n 0, 1) := by decide +kernel
theorem dX7_init_94 : decode cX7_init 94 = .ok (.bipush 6, 2) := by decide +kernel
theorem dX7_init_96 : decode cX7_init 96 = .ok (.newarray .int, 2) := by decide +kernel
theorem dX7_init_98 : decode cX7_init 98 = .ok (.putfield 43, 3) := by decide +kernel
theorem dX7_init_101 : decode cX7_init 101 = .ok (.aload_n 0, 1) := by decide +kernel
theorem dX7_init_102 : decode cX7_init 102 = .ok (.bipush 40, 2) := by decide +kernel
theorem dX7_init_104 : decode cX7_init 104 = .ok (.newarray .int, 2) := by decide +kernel
theorem dX7_init_106 : decode cX7_init 106 = .ok (.putfield 46, 3) := by decide +kernel
theorem dX7_init_109 : decode cX7_init 109 = .ok (.aload_n 0, 1) := by decide +kernel
theorem dX7_init_110 : decode cX7_init 110 = .ok (.sipush 270, 3) := by decide +kernel
theorem dX7_init_113 : decode cX7_init 113 = .ok (.newarray .int, 2) := by decide +kernel
theorem dX7_init_115 : decode cX7_init 115 = .ok (.putfield 49, 3) := by decide +kernel
theorem dX7_init_118 : decode cX7_init 118 = .ok (.aload_n 0, 1) := by decide +kernel
theorem dX7_init_119 : decode cX7_init 119 = .ok (.iconst 4, 1) := by decide +kernel
theorem dX7_init_120 : decode cX7_init 120 = .ok (.newarray .int, 2) := by decide +kernel
theorem dX7_init_122 : decode cX7_init 122 = .ok (.putfield 52, 3) := by decide +kernel
theorem dX7_init_125 : decode cX7_init 125 = .ok (.aload_n 0, 1) := by decide +kernel
theorem dX7_init_126 : decode cX7_init 126 = .ok (.iconst 4, 1) := by decide +kernel
theorem dX7_init_127 : decode cX7_init 127 = .ok (.newarray .int, 2) := by decide +kernel
theorem dX7_init_129 : decode cX7_init 129 = .ok (.putfield 55, 3) := by decide +kernel
theorem dX7_init_132 : decode cX7_init 132 = .ok (.aload_n 0, 1) := by decide +kernel
theorem dX7_init_133 : decode cX7_init 133 = .ok (.bipush 96, 2) := by decide +kernel
theorem dX7_init_135 : decode cX7_init 135 = .ok (.newarray .int, 2) := by decide +kernel
theorem dX7_init_137 : decode cX7_init 137 = .ok (.putfield 58, 3) := by decide +kernel
theorem dX7_init_140 : decode cX7_init 140 = .ok (.aload_n 0, 1) := by decide +kernel
theorem dX7_init_141 : decode cX7_init 141 = .ok (.bipush 24, 2) := by decide +kernel
theorem dX7_init_143 : decode cX7_init 143 = .ok (.newarray .int, 2) := by decide +kernel
theorem dX7_init_145 : decode cX7_init 145 = .ok (.putfield 61, 3) := by decide +kernel
theorem dX7_init_148 : decode cX7_init 148 = .ok (.iconst 0, 1) := by decide +kernel
theorem dX7_init_149 : decode cX7_init 149 = .ok (.istore_n 1, 1) := by decide +kernel
theorem dX7_init_150 : decode cX7_init 150 = .ok (.iload_n 1, 1) := by decide +kernel
theorem dX7_init_151 : decode cX7_init 151 = .ok (.iconst 4, 1) := by decide +kernel
theorem dX7_init_152 : decode cX7_init 152 = .ok (.if_icmp .ge 16, 3) := by decide +kernel
theorem dX7_init_155 : decode cX7_init 155 = .ok (.aload_n 0, 1) := by decide +kernel
theorem dX7_init_156 : decode cX7_init 156 = .ok (.getfield 52, 3) := by decide +kernel
theorem dX7_init_159 : decode cX7_init 159 = .ok (.iload_n 1, 1) := by decide +kernel
theorem dX7_init_160 : decode cX7_init 160 = .ok (.iconst (-1), 1) := by decide +kernel
theorem dX7_init_161 : decode cX7_init 161 = .ok (.iastore, 1) := by decide +kernel
theorem dX7_init_162 : decode cX7_init 162 = .ok (.iinc 1 1, 3) := by decide +kernel
theorem dX7_init_165 : decode cX7_init 165 = .ok (.goto (-15), 3) := by decide +kernel
theorem dX7_init_168 : decode cX7_init 168 = .ok (.return_, 1) := by decide +kernel
theorem dX7_isOne_0 : decode cX7_isOne 0 = .ok (.iload_n 1, 1) := by decide +kernel
theorem dX7_isOne_1 : decode cX7_isOne 1 = .ok (.i2l, 1) := by decide +kernel
theorem dX7_isOne_2 : decode cX7_isOne 2 = .ok (.lconst 0, 1) := by decide +kernel
theorem dX7_isOne_3 : decode cX7_isOne 3 = .ok (.aload_n 0, 1) := by decide +kernel
theorem dX7_isOne_4 : decode cX7_isOne 4 = .ok (.getfield 64, 3) := by decide +kernel
theorem dX7_isOne_7 : decode cX7_isOne 7 = .ok (.iconst 1, 1) := by decide +kernel
theorem dX7_isOne_8 : decode cX7_isOne 8 = .ok (.isub, 1) := by decide +kernel
theorem dX7_isOne_9 : decode cX7_isOne 9 = .ok (.i2l, 1) := by decide +kernel
theorem dX7_isOne_10 : decode cX7_isOne 10 = .ok (.invokestatic 68, 3) := by decide +kernel
theorem dX7_isOne_13 : decode cX7_isOne 13 = .ok (.ireturn, 1) := by decide +kernel
theorem dX7_isLender_0 : decode cX7_isLender 0 = .ok (.iload_n 0, 1) := by decide +kernel
theorem dX7_isLender_1 : decode cX7_isLender 1 = .ok (.i2l, 1) := by decide +kernel
theorem dX7_isLender_2 : decode cX7_isLender 2 = .ok (.lconst 0, 1) := by decide +kernel
theorem dX7_isLender_3 : decode cX7_isLender 3 = .ok (.ldc2_w 72, 3) := by decide +kernel
theorem dX7_isLender_6 : decode cX7_isLender 6 = .ok (.invokestatic 68, 3) := by decide +kernel
theorem dX7_isLender_9 : decode cX7_isLender 9 = .ok (.ireturn, 1) := by decide +kernel
theorem dX7_person_0 : decode cX7_person 0 = .ok (.iload_n 1, 1) := by decide +kernel
theorem dX7_person_1 : decode cX7_person 1 = .ok (.i2l, 1) := by decide +kernel
theorem dX7_person_2 : decode cX7_person 2 = .ok (.lconst 0, 1) := by decide +kernel
theorem dX7_person_3 : decode cX7_person 3 = .ok (.ldc2_w 74, 3) := by decide +kernel
theorem dX7_person_6 : decode cX7_person 6 = .ok (.invokestatic 68, 3) := by decide +kernel
theorem dX7_person_9 : decode cX7_person 9 = .ok (.ifCond .eq 27, 3) := by decide +kernel
theorem dX7_person_12 : decode cX7_person 12 = .ok (.iload_n 2, 1) := by decide +kernel
theorem dX7_person_13 : decode cX7_person 13 = .ok (.i2l, 1) := by decide +kernel
theorem dX7_person_14 : decode cX7_person 14 = .ok (.lconst 0, 1) := by decide +kernel
theorem dX7_person_15 : decode cX7_person 15 = .ok (.ldc2_w 76, 3) := by decide +kernel
theorem dX7_person_18 : decode cX7_person 18 = .ok (.invokestatic 68, 3) := by decide +kernel
theorem dX7_person_21 : decode cX7_person 21 = .ok (.ifCond .eq 15, 3) := by decide +kernel
theorem dX7_person_24 : decode cX7_person 24 = .ok (.iload_n 3, 1) := by decide +kernel
theorem dX7_person_25 : decode cX7_person 25 = .ok (.i2l, 1) := by decide +kernel
theorem dX7_person_26 : decode cX7_person 26 = .ok (.lconst 1, 1) := by decide +kernel
theorem dX7_person_27 : decode cX7_person 27 = .ok (.ldc2_w 78, 3) := by decide +kernel
theorem dX7_person_30 : decode cX7_person 30 = .ok (.invokestatic 68, 3) := by decide +kernel
theorem dX7_person_33 : decode cX7_person 33 = .ok (.ifCond .ne 5, 3) := by decide +kernel
theorem dX7_person_36 : decode cX7_person 36 = .ok (.iconst (-1), 1) := by decide +kernel
theorem dX7_person_37 : decode cX7_person 37 = .ok (.ireturn, 1) := by decide +kernel
theorem dX7_person_38 : decode cX7_person 38 = .ok (.aload_n 0, 1) := by decide +kernel
theorem dX7_person_39 : decode cX7_person 39 = .ok (.getfield 64, 3) := by decide +kernel
theorem dX7_person_42 : decode cX7_person 42 = .ok (.iconst 5, 1) := by decide +kernel
theorem dX7_person_43 : decode cX7_person 43 = .ok (.if_icmp .ne 6, 3) := by decide +kernel
theorem dX7_person_46 : decode cX7_person 46 = .ok (.bipush (-3), 2) := by decide +kernel
theorem dX7_person_48 : decode cX7_person 48 = .ok (.ireturn, 1) := by decide +kernel
theorem dX7_person_49 : decode cX7_person 49 = .ok (.iconst 0, 1) := by decide +kernel
theorem dX7_person_50 : decode cX7_person 50 = .ok (.istore 4, 2) := by decide +kernel
theorem dX7_person_52 : decode cX7_person 52 = .ok (.iload 4, 2) := by decide +kernel
theorem dX7_person_54 : decode cX7_person 54 = .ok (.bipush 40, 2) := by decide +kernel
theorem dX7_person_56 : decode cX7_person 56 = .ok (.if_icmp .ge 25, 3) := by decide +kernel
theorem dX7_person_59 : decode cX7_person 59 = .ok (.aload_n 0, 1) := by decide +kernel
theorem dX7_person_60 : decode cX7_person 60 = .ok (.getfield 7, 3) := by decide +kernel
theorem dX7_person_63 : decode cX7_person 63 = .ok (.bipush 40, 2) := by decide +kernel
theorem dX7_person_65 : decode cX7_person 65 = .ok (.aload_n 0, 1) := by decide +kernel
theorem dX7_person_66 : decode cX7_person 66 = .ok (.getfield 64, 3) := by decide +kernel
theorem dX7_person_69 : decode cX7_person 69 = .ok (.imul, 1) := by decide +kernel
theorem dX7_person_70 : decode cX7_person 70 = .ok (.iload 4, 2) := by decide +kernel
theorem dX7_person_72 : decode cX7_person 72 = .ok (.iadd, 1) := by decide +kernel
theorem dX7_person_73 : decode cX7_person 73 = .ok (.iconst 0, 1) := by decide +kernel
theorem dX7_person_74 : decode cX7_person 74 = .ok (.iastore, 1) := by decide +kernel
theorem dX7_person_75 : decode cX7_person 75 = .ok (.iinc 4 1, 3) := by decide +kernel
theorem dX7_person_78 : decode cX7_person 78 = .ok (.goto (-26), 3) := by decide +kernel
theorem dX7_person_81 : decode cX7_person 81 = .ok (.aload_n 0, 1) := by decide +kernel
theorem dX7_person_82 : decode cX7_person 82 = .ok (.getfield 7, 3) := by decide +kernel
theorem dX7_person_85 : decode cX7_person 85 = .ok (.bipush 40, 2) := by decide +kernel
theorem dX7_person_87 : decode cX7_person 87 = .ok (.aload_n 0, 1) := by decide +kernel
theorem dX7_person_88 : decode cX7_person 88 = .ok (.getfield 64, 3) := by decide +kernel
theorem dX7_person_91 : decode cX7_person 91 = .ok (.imul, 1) := by decide +kernel
theorem dX7_person_92 : decode cX7_person 92 = .ok (.iload_n 1, 1) := by decide +kernel
theorem dX7_person_93 : decode cX7_person 93 = .ok (.iastore, 1) := by decide +kernel
theorem dX7_person_94 : decode cX7_person 94 = .ok (.aload_n 0, 1) := by decide +kernel
theorem dX7_person_95 : decode cX7_person 95 = .ok (.getfield 7, 3) := by decide +kernel
theorem dX7_person_98 : decode cX7_person 98 = .ok (.bipush 40, 2) := by decide +kernel
theorem dX7_person_100 : decode cX7_person 100 = .ok (.aload_n 0, 1) := by decide +kernel
theorem dX7_person_101 : decode cX7_person 101 = .ok (.getfield 64, 3) := by decide +kernel
theorem dX7_person_104 : decode cX7_person 104 = .ok (.imul, 1) := by decide +kernel
theorem dX7_person_105 : decode cX7_person 105 = .ok (.iconst 1, 1) := by decide +kernel
theorem dX7_person_106 : decode cX7_person 106 = .ok (.iadd, 1) := by decide +kernel
theorem dX7_person_107 : decode cX7_person 107 = .ok (.iload_n 2, 1) := by decide +kernel
theorem dX7_person_108 : decode cX7_person 108 = .ok (.iastore, 1) := by decide +kernel
theorem dX7_person_109 : decode cX7_person 109 = .ok (.aload_n 0, 1) := by decide +kernel
theorem dX7_person_110 : decode cX7_person 110 = .ok (.getfield 7, 3) := by decide +kernel
theorem dX7_person_113 : decode cX7_person 113 = .ok (.bipush 40, 2) := by decide +kernel
theorem dX7_person_115 : decode cX7_person 115 = .ok (.aload_n 0, 1) := by decide +kernel
theorem dX7_person_116 : decode cX7_person 116 = .ok (.getfield 64, 3) := by decide +kernel
theorem dX7_person_119 : decode cX7_person 119 = .ok (.imul, 1) := by decide +kernel
theorem dX7_person_120 : decode cX7_person 120 = .ok (.iconst 2, 1) := by decide +kernel
theorem dX7_person_121 : decode cX7_person 121 = .ok (.iadd, 1) := by decide +kernel
theorem dX7_person_122 : decode cX7_person 122 = .ok (.iload_n 3, 1) := by decide +kernel
theorem dX7_person_123 : decode cX7_person 123 = .ok (.iastore, 1) := by decide +kernel
theorem dX7_person_124 : decode cX7_person 124 = .ok (.aload_n 0, 1) := by decide +kernel
theorem dX7_person_125 : decode cX7_person 125 = .ok (.getfield 7, 3) := by decide +kernel
theorem dX7_person_128 : decode cX7_person 128 = .ok (.bipush 40, 2) := by decide +kernel
theorem dX7_person_130 : decode cX7_person 130 = .ok (.aload_n 0, 1) := by decide +kernel
theorem dX7_person_131 : decode cX7_person 131 = .ok (.getfield 64, 3) := by decide +kernel
theorem dX7_person_134 : decode cX7_person 134 = .ok (.imul, 1) := by decide +kernel
theorem dX7_person_135 : decode cX7_person 135 = .ok (.iconst 4, 1) := by decide +kernel
theorem dX7_person_136 : decode cX7_person 136 = .ok (.iadd, 1) := by decide +kernel
theorem dX7_person_137 : decode cX7_person 137 = .ok (.bipush (-4), 2) := by decide +kernel
theorem dX7_person_139 : decode cX7_person 139 = .ok (.iastore, 1) := by decide +kernel
theorem dX7_person_140 : decode cX7_person 140 = .ok (.iconst 0, 1) := by decide +kernel
theorem dX7_person_141 : decode cX7_person 141 = .ok (.istore 4, 2) := by decide +kernel
theorem dX7_person_143 : decode cX7_person 143 = .ok (.iload 4, 2) := by decide +kernel
theorem dX7_person_145 : decode cX7_person 145 = .ok (.iconst 5, 1) := by decide +kernel
theorem dX7_person_146 : decode cX7_person 146 = .ok (.if_icmp .ge 24, 3) := by decide +kernel
theorem dX7_person_149 : decode cX7_person 149 = .ok (.aload_n 0, 1) := by decide +kernel
theorem dX7_person_150 : decode cX7_person 150 = .ok (.getfield 19, 3) := by decide +kernel
theorem dX7_person_153 : decode cX7_person 153 = .ok (.iconst 5, 1) := by decide +kernel
theorem dX7_person_154 : decode cX7_person 154 = .ok (.aload_n 0, 1) := by decide +kernel
theorem dX7_person_155 : decode cX7_person 155 = .ok (.getfield 64, 3) := by decide +kernel
theorem dX7_person_158 : decode cX7_person 158 = .ok (.imul, 1) := by decide +kernel
theorem dX7_person_159 : decode cX7_person 159 = .ok (.iload 4, 2) := by decide +kernel
theorem dX7_person_161 : decode cX7_person 161 = .ok (.iadd, 1) := by decide +kernel
theorem dX7_person_162 : decode cX7_person 162 = .ok (.iconst 0, 1) := by decide +kernel
theorem dX7_person_163 : decode cX7_person 163 = .ok (.iastore, 1) := by decide +kernel
theorem dX7_person_164 : decode cX7_person 164 = .ok (.iinc 4 1, 3) := by decide +kernel
theorem dX7_person_167 : decode cX7_person 167 = .ok (.goto (-24), 3) := by decide +kernel
theorem dX7_person_170 : decode cX7_person 170 = .ok (.aload_n 0, 1) := by decide +kernel
theorem dX7_person_171 : decode cX7_person 171 = .ok (.dup, 1) := by decide +kernel
theorem dX7_person_172 : decode cX7_person 172 = .ok (.getfield 64, 3) := by decide +kernel
theorem dX7_person_175 : decode cX7_person 175 = .ok (.iconst 1, 1) := by decide +kernel
theorem dX7_person_176 : decode cX7_person 176 = .ok (.iadd, 1) := by decide +kernel
theorem dX7_person_177 : decode cX7_person 177 = .ok (.putfield 64, 3) := by decide +kernel
theorem dX7_person_180 : decode cX7_person 180 = .ok (.aload_n 0, 1) := by decide +kernel
theorem dX7_person_181 : decode cX7_person 181 = .ok (.getfield 64, 3) := by decide +kernel
theorem dX7_person_184 : decode cX7_person 184 = .ok (.iconst 1, 1) := by decide +kernel
theorem dX7_person_185 : decode cX7_person 185 = .ok (.isub, 1) := by decide +kernel
theorem dX7_person_186 : decode cX7_person 186 = .ok (.ireturn, 1) := by decide +kernel
theorem dX7_thickOf_0 : decode cX7_thickOf 0 = .ok (.iconst 0, 1) := by decide +kernel
theorem dX7_thickOf_1 : decode cX7_thickOf 1 = .ok (.istore_n 2, 1) := by decide +kernel
theorem dX7_thickOf_2 : decode cX7_thickOf 2 = .ok (.iconst 0, 1) := by decide +kernel
theorem dX7_thickOf_3 : decode cX7_thickOf 3 = .ok (.istore_n 3, 1) := by decide +kernel
theorem dX7_thickOf_4 : decode cX7_thickOf 4 = .ok (.iload_n 3, 1) := by decide +kernel
theorem dX7_thickOf_5 : decode cX7_thickOf 5 = .ok (.aload_n 0, 1) := by decide +kernel
theorem dX7_thickOf_6 : decode cX7_thickOf 6 = .ok (.getfield 16, 3) := by decide +kernel
theorem dX7_thickOf_9 : decode cX7_thickOf 9 = .ok (.bipush 40, 2) := by decide +kernel
theorem dX7_thickOf_11 : decode cX7_thickOf 11 = .ok (.iload_n 1, 1) := by decide +kernel
theorem dX7_thickOf_12 : decode cX7_thickOf 12 = .ok (.imul, 1) := by decide +kernel
theorem dX7_thickOf_13 : decode cX7_thickOf 13 = .ok (.iconst 3, 1) := by decide +kernel
theorem dX7_thickOf_14 : decode cX7_thickOf 14 = .ok (.iadd, 1) := by decide +kernel
theorem dX7_thickOf_15 : decode cX7_thickOf 15 = .ok (.iaload, 1) := by decide +kernel
theorem dX7_thickOf_16 : decode cX7_thickOf 16 = .ok (.if_icmp .ge 30, 3) := by decide +kernel
theorem dX7_thickOf_19 : decode cX7_thickOf 19 = .ok (.iload_n 2, 1) := by decide +kernel
theorem dX7_thickOf_20 : decode cX7_thickOf 20 = .ok (.aload_n 0, 1) := by decide +kernel
theorem dX7_thickOf_21 : decode cX7_thickOf 21 = .ok (.getfield 16, 3) := by decide +kernel
theorem dX7_thickOf_24 : decode cX7_thickOf 24 = .ok (.bipush 40, 2) := by decide +kernel
theorem dX7_thickOf_26 : decode cX7_thickOf 26 = .ok (.iload_n 1, 1) := by decide +kernel
theorem dX7_thickOf_27 : decode cX7_thickOf 27 = .ok (.imul, 1) := by decide +kernel
theorem dX7_thickOf_28 : decode cX7_thickOf 28 = .ok (.bipush 8, 2) := by decide +kernel
theorem dX7_thickOf_30 : decode cX7_thickOf 30 = .ok (.iadd, 1) := by decide +kernel
theorem dX7_thickOf_31 : decode cX7_thickOf 31 = .ok (.iconst 4, 1) := by decide +kernel
theorem dX7_thickOf_32 : decode cX7_thickOf 32 = .ok (.iload_n 3, 1) := by decide +kernel
theorem dX7_thickOf_33 : decode cX7_thickOf 33 = .ok (.imul, 1) := by decide +kernel
theorem dX7_thickOf_34 : decode cX7_thickOf 34 = .ok (.iadd, 1) := by decide +kernel
theorem dX7_thickOf_35 : decode cX7_thickOf 35 = .ok (.iconst 3, 1) := by decide +kernel
theorem dX7_thickOf_36 : decode cX7_thickOf 36 = .ok (.iadd, 1) := by decide +kernel
theorem dX7_thickOf_37 : decode cX7_thickOf 37 = .ok (.iaload, 1) := by decide +kernel
theorem dX7_thickOf_38 : decode cX7_thickOf 38 = .ok (.iadd, 1) := by decide +kernel
theorem dX7_thickOf_39 : decode cX7_thickOf 39 = .ok (.istore_n 2, 1) := by decide +kernel
theorem dX7_thickOf_40 : decode cX7_thickOf 40 = .ok (.iinc 3 1, 3) := by decide +kernel
theorem dX7_thickOf_43 : decode cX7_thickOf 43 = .ok (.goto (-39), 3) := by decide +kernel
theorem dX7_thickOf_46 : decode cX7_thickOf 46 = .ok (.iload_n 2, 1) := by decide +kernel
theorem dX7_thickOf_47 : decode cX7_thickOf 47 = .ok (.ireturn, 1) := by decide +kernel
theorem dX7_of_0 : decode cX7_of 0 = .ok (.aload_n 0, 1) := by decide +kernel
theorem dX7_of_1 : decode cX7_of 1 = .ok (.aload_n 0, 1) := by decide +kernel
theorem dX7_of_2 : decode cX7_of 2 = .ok (.getfield 7, 3) := by decide +kernel
theorem dX7_of_5 : decode cX7_of 5 = .ok (.putfield 16, 3) := by decide +kernel
theorem dX7_of_8 : decode cX7_of 8 = .ok (.aload_n 0, 1) := by decide +kernel
theorem dX7_of_9 : decode cX7_of 9 = .ok (.iload_n 1, 1) := by decide +kernel
theorem dX7_of_10 : decode cX7_of 10 = .ok (.invokevirtual 80, 3) := by decide +kernel
theorem dX7_of_13 : decode cX7_of 13 = .ok (.ifCond .eq 15, 3) := by decide +kernel
theorem dX7_of_16 : decode cX7_of 16 = .ok (.iload_n 2, 1) := by decide +kernel
theorem dX7_of_17 : decode cX7_of 17 = .ok (.i2l, 1) := by decide +kernel
theorem dX7_of_18 : decode cX7_of 18 = .ok (.lconst 0, 1) := by decide +kernel
theorem dX7_of_19 : decode cX7_of 19 = .ok (.ldc2_w 84, 3) := by decide +kernel
theorem dX7_of_22 : decode cX7_of 22 = .ok (.invokestatic 68, 3) := by decide +kernel
theorem dX7_of_25 : decode cX7_of 25 = .ok (.ifCond .ne 5, 3) := by decide +kernel
theorem dX7_of_28 : decode cX7_of 28 = .ok (.iconst (-1), 1) := by decide +kernel
theorem dX7_of_29 : decode cX7_of 29 = .ok (.ireturn, 1) := by decide +kernel
theorem dX7_of_30 : decode cX7_of 30 = .ok (.iconst 0, 1) := by decide +kernel
theorem dX7_of_31 : decode cX7_of 31 = .ok (.istore_n 3, 1) := by decide +kernel
theorem dX7_of_32 : decode cX7_of 32 = .ok (.iconst 0, 1) := by decide +kernel
theorem dX7_of_33 : decode cX7_of 33 = .ok (.istore 4, 2) := by decide +kernel
theorem dX7_of_35 : decode cX7_of 35 = .ok (.iload 4, 2) := by decide +kernel
theorem dX7_of_37 : decode cX7_of 37 = .ok (.aload_n 0, 1) := by decide +kernel
theorem dX7_of_38 : decode cX7_of 38 = .ok (.getfield 7, 3) := by decide +kernel
theorem dX7_of_41 : decode cX7_of 41 = .ok (.bipush 40, 2) := by decide +kernel
theorem dX7_of_43 : decode cX7_of 43 = .ok (.iload_n 1, 1) := by decide +kernel
theorem dX7_of_44 : decode cX7_of 44 = .ok (.imul, 1) := by decide +kernel
theorem dX7_of_45 : decode cX7_of 45 = .ok (.iconst 3, 1) := by decide +kernel
theorem dX7_of_46 : decode cX7_of 46 = .ok (.iadd, 1) := by decide +kernel
theorem dX7_of_47 : decode cX7_of 47 = .ok (.iaload, 1) := by decide +kernel
theorem dX7_of_48 : decode cX7_of 48 = .ok (.if_icmp .ge 31, 3) := by decide +kernel
theorem dX7_of_51 : decode cX7_of 51 = .ok (.iload_n 3, 1) := by decide +kernel
theorem dX7_of_52 : decode cX7_of 52 = .ok (.aload_n 0, 1) := by decide +kernel
theorem dX7_of_53 : decode cX7_of 53 = .ok (.getfield 7, 3) := by decide +kernel
theorem dX7_of_56 : decode cX7_of 56 = .ok (.bipush 40, 2) := by decide +kernel
theorem dX7_of_58 : decode cX7_of 58 = .ok (.iload_n 1, 1) := by decide +kernel
theorem dX7_of_59 : decode cX7_of 59 = .ok (.imul, 1) := by decide +kernel
theorem dX7_of_60 : decode cX7_of 60 = .ok (.bipush 8, 2) := by decide +kernel
theorem dX7_of_62 : decode cX7_of 62 = .ok (.iadd, 1) := by decide +kernel
theorem dX7_of_63 : decode cX7_of 63 = .ok (.iconst 4, 1) := by decide +kernel
theorem dX7_of_64 : decode cX7_of 64 = .ok (.iload 4, 2) := by decide +kernel
theorem dX7_of_66 : decode cX7_of 66 = .ok (.imul, 1) := by decide +kernel
theorem dX7_of_67 : decode cX7_of 67 = .ok (.iadd, 1) := by decide +kernel
theorem dX7_of_68 : decode cX7_of 68 = .ok (.iconst 1, 1) := by decide +kernel
theorem dX7_of_69 : decode cX7_of 69 = .ok (.iadd, 1) := by decide +kernel
theorem dX7_of_70 : decode cX7_of 70 = .ok (.iaload, 1) := by decide +kernel
theorem dX7_of_71 : decode cX7_of 71 = .ok (.iadd, 1) := by decide +kernel
theorem dX7_of_72 : decode cX7_of 72 = .ok (.istore_n 3, 1) := by decide +kernel
theorem dX7_of_73 : decode cX7_of 73 = .ok (.iinc 4 1, 3) := by decide +kernel
theorem dX7_of_76 : decode cX7_of 76 = .ok (.goto (-41), 3) := by decide +kernel
theorem dX7_of_79 : decode cX7_of 79 = .ok (.iload_n 2, 1) := by decide +kernel
theorem dX7_of_80 : decode cX7_of 80 = .ok (.iconst 4, 1) := by decide +kernel
theorem dX7_of_81 : decode cX7_of 81 = .ok (.if_icmp .ge 17, 3) := by decide +kernel
theorem dX7_of_84 : decode cX7_of 84 = .ok (.aload_n 0, 1) := by decide +kernel
theorem dX7_of_85 : decode cX7_of 85 = .ok (.getfield 7, 3) := by decide +kernel
theorem dX7_of_88 : decode cX7_of 88 = .ok (.bipush 40, 2) := by decide +kernel
theorem dX7_of_90 : decode cX7_of 90 = .ok (.iload_n 1, 1) := by decide +kernel
theorem dX7_of_91 : decode cX7_of 91 = .ok (.imul, 1) := by decide +kernel
theorem dX7_of_92 : decode cX7_of 92 = .ok (.iload_n 2, 1) := by decide +kernel
theorem dX7_of_93 : decode cX7_of 93 = .ok (.iadd, 1) := by decide +kernel
theorem dX7_of_94 : decode cX7_of 94 = .ok (.iaload, 1) := by decide +kernel
theorem dX7_of_95 : decode cX7_of 95 = .ok (.goto 47, 3) := by decide +kernel
theorem dX7_of_98 : decode cX7_of 98 = .ok (.iload_n 2, 1) := by decide +kernel
theorem dX7_of_99 : decode cX7_of 99 = .ok (.iconst 4, 1) := by decide +kernel
theorem dX7_of_100 : decode cX7_of 100 = .ok (.if_icmp .ne 11, 3) := by decide +kernel
theorem dX7_of_103 : decode cX7_of 103 = .ok (.aload_n 0, 1) := by decide +kernel
theorem dX7_of_104 : decode cX7_of 104 = .ok (.iload_n 1, 1) := by decide +kernel
theorem dX7_of_105 : decode cX7_of 105 = .ok (.invokevirtual 86, 3) := by decide +kernel
theorem dX7_of_108 : decode cX7_of 108 = .ok (.goto 34, 3) := by decide +kernel
theorem dX7_of_111 : decode cX7_of 111 = .ok (.iload_n 2, 1) := by decide +kernel
theorem dX7_of_112 : decode cX7_of 112 = .ok (.iconst 5, 1) := by decide +kernel
theorem dX7_of_113 : decode cX7_of 113 = .ok (.if_icmp .ne 18, 3) := by decide +kernel
theorem dX7_of_116 : decode cX7_of 116 = .ok (.iload_n 3, 1) := by decide +kernel
theorem dX7_of_117 : decode cX7_of 117 = .ok (.ldc 90, 2) := by decide +kernel
theorem dX7_of_119 : decode cX7_of 119 = .ok (.if_icmp .le 8, 3) := by decide +kernel
theorem dX7_of_122 : decode cX7_of 122 = .ok (.ldc 90, 2) := by decide +kernel
theorem dX7_of_124 : decode cX7_of 124 = .ok (.goto 18, 3) := by decide +kernel
theorem dX7_of_127 : decode cX7_of 127 = .ok (.iload_n 3, 1) := by decide +kernel
theorem dX7_of_128 : decode cX7_of 128 = .ok (.goto 14, 3) := by decide +kernel
theorem dX7_of_131 : decode cX7_of 131 = .ok (.aload_n 0, 1) := by decide +kernel
theorem dX7_of_132 : decode cX7_of 132 = .ok (.getfield 7, 3) := by decide +kernel
theorem dX7_of_135 : decode cX7_of 135 = .ok (.bipush 40, 2) := by decide +kernel
theorem dX7_of_137 : decode cX7_of 137 = .ok (.iload_n 1, 1) := by decide +kernel
theorem dX7_of_138 : decode cX7_of 138 = .ok (.imul, 1) := by decide +kernel
theorem dX7_of_139 : decode cX7_of 139 = .ok (.iconst 4, 1) := by decide +kernel
theorem dX7_of_140 : decode cX7_of 140 = .ok (.iadd, 1) := by decide +kernel
theorem dX7_of_141 : decode cX7_of 141 = .ok (.iaload, 1) := by decide +kernel
theorem dX7_of_142 : decode cX7_of 142 = .ok (.ireturn, 1) := by decide +kernel
theorem dX7_isCoat_0 : decode cX7_isCoat 0 = .ok (.aload_n 0, 1) := by decide +kernel
theorem dX7_isCoat_1 : decode cX7_isCoat 1 = .ok (.iload_n 1, 1) := by decide +kernel
theorem dX7_isCoat_2 : decode cX7_isCoat 2 = .ok (.invokevirtual 80, 3) := by decide +kernel
theorem dX7_isCoat_5 : decode cX7_isCoat 5 = .ok (.ifCond .eq 30, 3) := by decide +kernel
theorem dX7_isCoat_8 : decode cX7_isCoat 8 = .ok (.iload_n 2, 1) := by decide +kernel
theorem dX7_isCoat_9 : decode cX7_isCoat 9 = .ok (.i2l, 1) := by decide +kernel
theorem dX7_isCoat_10 : decode cX7_isCoat 10 = .ok (.lconst 0, 1) := by decide +kernel
theorem dX7_isCoat_11 : decode cX7_isCoat 11 = .ok (.aload_n 0, 1) := by decide +kernel
theorem dX7_isCoat_12 : decode cX7_isCoat 12 = .ok (.getfield 7, 3) := by decide +kernel
theorem dX7_isCoat_15 : decode cX7_isCoat 15 = .ok (.bipush 40, 2) := by decide +kernel
theorem dX7_isCoat_17 : decode cX7_isCoat 17 = .ok (.iload_n 1, 1) := by decide +kernel
theorem dX7_isCoat_18 : decode cX7_isCoat 18 = .ok (.imul, 1) := by decide +kernel
theorem dX7_isCoat_19 : decode cX7_isCoat 19 = .ok (.iconst 3, 1) := by decide +kernel
theorem dX7_isCoat_20 : decode cX7_isCoat 20 = .ok (.iadd, 1) := by decide +kernel
theorem dX7_isCoat_21 : decode cX7_isCoat 21 = .ok (.iaload, 1) := by decide +kernel
theorem dX7_isCoat_22 : decode cX7_isCoat 22 = .ok (.iconst 1, 1) := by decide +kernel
theorem dX7_isCoat_23 : decode cX7_isCoat 23 = .ok (.isub, 1) := by decide +kernel
theorem dX7_isCoat_24 : decode cX7_isCoat 24 = .ok (.i2l, 1) := by decide +kernel
theorem dX7_isCoat_25 : decode cX7_isCoat 25 = .ok (.invokestatic 68, 3) := by decide +kernel
theorem dX7_isCoat_28 : decode cX7_isCoat 28 = .ok (.ifCond .eq 7, 3) := by decide +kernel
theorem dX7_isCoat_31 : decode cX7_isCoat 31 = .ok (.iconst 1, 1) := by decide +kernel
theorem dX7_isCoat_32 : decode cX7_isCoat 32 = .ok (.goto 4, 3) := by decide +kernel
theorem dX7_isCoat_35 : decode cX7_isCoat 35 = .ok (.iconst 0, 1) := by decide +kernel
theorem dX7_isCoat_36 : decode cX7_isCoat 36 = .ok (.ireturn, 1) := by decide +kernel
theorem dX7_coat_0 : decode cX7_coat 0 = .ok (.aload_n 0, 1) := by decide +kernel
theorem dX7_coat_1 : decode cX7_coat 1 = .ok (.iload_n 1, 1) := by decide +kernel
theorem dX7_coat_2 : decode cX7_coat 2 = .ok (.iload_n 2, 1) := by decide +kernel
theorem dX7_coat_3 : decode cX7_coat 3 = .ok (.invokevirtual 91, 3) := by decide +kernel
theorem dX7_coat_6 : decode cX7_coat 6 = .ok (.ifCond .eq 36, 3) := by decide +kernel
theorem dX7_coat_9 : decode cX7_coat 9 = .ok (.iload_n 3, 1) := by decide +kernel
theorem dX7_coat_10 : decode cX7_coat 10 = .ok (.i2l, 1) := by decide +kernel
theorem dX7_coat_11 : decode cX7_coat 11 = .ok (.lconst 0, 1) := by decide +kernel
theorem dX7_coat_12 : decode cX7_coat 12 = .ok (.ldc2_w 95, 3) := by decide +kernel
theorem dX7_coat_15 : decode cX7_coat 15 = .ok (.invokestatic 68, 3) := by decide +kernel
theorem dX7_coat_18 : decode cX7_coat 18 = .ok (.ifCond .eq 24, 3) := by decide +kernel
theorem dX7_coat_21 : decode cX7_coat 21 = .ok (.aload_n 0, 1) := by decide +kernel
theorem dX7_coat_22 : decode cX7_coat 22 = .ok (.getfield 7, 3) := by decide +kernel
theorem dX7_coat_25 : decode cX7_coat 25 = .ok (.bipush 40, 2) := by decide +kernel
theorem dX7_coat_27 : decode cX7_coat 27 = .ok (.iload_n 1, 1) := by decide +kernel
theorem dX7_coat_28 : decode cX7_coat 28 = .ok (.imul, 1) := by decide +kernel
theorem dX7_coat_29 : decode cX7_coat 29 = .ok (.bipush 8, 2) := by decide +kernel
theorem dX7_coat_31 : decode cX7_coat 31 = .ok (.iadd, 1) := by decide +kernel
theorem dX7_coat_32 : decode cX7_coat 32 = .ok (.iconst 4, 1) := by decide +kernel
theorem dX7_coat_33 : decode cX7_coat 33 = .ok (.iload_n 2, 1) := by decide +kernel
theorem dX7_coat_34 : decode cX7_coat 34 = .ok (.imul, 1) := by decide +kernel
theorem dX7_coat_35 : decode cX7_coat 35 = .ok (.iadd, 1) := by decide +kernel
theorem dX7_coat_36 : decode cX7_coat 36 = .ok (.iload_n 3, 1) := by decide +kernel
theorem dX7_coat_37 : decode cX7_coat 37 = .ok (.iadd, 1) := by decide +kernel
theorem dX7_coat_38 : decode cX7_coat 38 = .ok (.iaload, 1) := by decide +kernel
theorem dX7_coat_39 : decode cX7_coat 39 = .ok (.goto 4, 3) := by decide +kernel
theorem dX7_coat_42 : decode cX7_coat 42 = .ok (.iconst (-1), 1) := by decide +kernel
theorem dX7_coat_43 : decode cX7_coat 43 = .ok (.ireturn, 1) := by decide +kernel
theorem dX7_tax_0 : decode cX7_tax 0 = .ok (.aload_n 0, 1) := by decide +kernel
theorem dX7_tax_1 : decode cX7_tax 1 = .ok (.iload_n 1, 1) := by decide +kernel
theorem dX7_tax_2 : decode cX7_tax 2 = .ok (.invokevirtual 80, 3) := by decide +kernel
theorem dX7_tax_5 : decode cX7_tax 5 = .ok (.ifCond .eq 22, 3) := by decide +kernel
theorem dX7_tax_8 : decode cX7_tax 8 = .ok (.iload_n 2, 1) := by decide +kernel
theorem dX7_tax_9 : decode cX7_tax 9 = .ok (.invokestatic 97, 3) := by decide +kernel
theorem dX7_tax_12 : decode cX7_tax 12 = .ok (.ifCond .eq 15, 3) := by decide +kernel
theorem dX7_tax_15 : decode cX7_tax 15 = .ok (.iload_n 3, 1) := by decide +kernel
theorem dX7_tax_16 : decode cX7_tax 16 = .ok (.i2l, 1) := by decide +kernel
theorem dX7_tax_17 : decode cX7_tax 17 = .ok (.lconst 0, 1) := by decide +kernel
theorem dX7_tax_18 : decode cX7_tax 18 = .ok (.ldc2_w 100, 3) := by decide +kernel
theorem dX7_tax_21 : decode cX7_tax 21 = .ok (.invokestatic 68, 3) := by decide +kernel
theorem dX7_tax_24 : decode cX7_tax 24 = .ok (.ifCond .ne 5, 3) := by decide +kernel
theorem dX7_tax_27 : decode cX7_tax 27 = .ok (.iconst (-1), 1) := by decide +kernel
theorem dX7_tax_28 : decode cX7_tax 28 = .ok (.ireturn, 1) := by decide +kernel
theorem dX7_tax_29 : decode cX7_tax 29 = .ok (.aload_n 0, 1) := by decide +kernel
theorem dX7_tax_30 : decode cX7_tax 30 = .ok (.getfield 19, 3) := by decide +kernel
theorem dX7_tax_33 : decode cX7_tax 33 = .ok (.iconst 5, 1) := by decide +kernel
theorem dX7_tax_34 : decode cX7_tax 34 = .ok (.iload_n 1, 1) := by decide +kernel
theorem dX7_tax_35 : decode cX7_tax 35 = .ok (.imul, 1) := by decide +kernel
theorem dX7_tax_36 : decode cX7_tax 36 = .ok (.iload_n 2, 1) := by decide +kernel
theorem dX7_tax_37 : decode cX7_tax 37 = .ok (.iadd, 1) := by decide +kernel
theorem dX7_tax_38 : decode cX7_tax 38 = .ok (.iaload, 1) := by decide +kernel
theorem dX7_tax_39 : decode cX7_tax 39 = .ok (.istore 4, 2) := by decide +kernel
theorem dX7_tax_41 : decode cX7_tax 41 = .ok (.aload_n 0, 1) := by decide +kernel
theorem dX7_tax_42 : decode cX7_tax 42 = .ok (.getfield 19, 3) := by decide +kernel
theorem dX7_tax_45 : decode cX7_tax 45 = .ok (.iconst 5, 1) := by decide +kernel
theorem dX7_tax_46 : decode cX7_tax 46 = .ok (.iload_n 1, 1) := by decide +kernel
theorem dX7_tax_47 : decode cX7_tax 47 = .ok (.imul, 1) := by decide +kernel
theorem dX7_tax_48 : decode cX7_tax 48 = .ok (.iload_n 2, 1) := by decide +kernel
theorem dX7_tax_49 : decode cX7_tax 49 = .ok (.iadd, 1) := by decide +kernel
theorem dX7_tax_50 : decode cX7_tax 50 = .ok (.iload_n 3, 1) := by decide +kernel
theorem dX7_tax_51 : decode cX7_tax 51 = .ok (.iastore, 1) := by decide +kernel
theorem dX7_tax_52 : decode cX7_tax 52 = .ok (.iload 4, 2) := by decide +kernel
theorem dX7_tax_54 : decode cX7_tax 54 = .ok (.ireturn, 1) := by decide +kernel
theorem dX7_heat_0 : decode cX7_heat 0 = .ok (.iload_n 1, 1) := by decide +kernel
theorem dX7_heat_1 : decode cX7_heat 1 = .ok (.i2l, 1) := by decide +kernel
theorem dX7_heat_2 : decode cX7_heat 2 = .ok (.lconst 0, 1) := by decide +kernel
theorem dX7_heat_3 : decode cX7_heat 3 = .ok (.ldc2_w 102, 3) := by decide +kernel
theorem dX7_heat_6 : decode cX7_heat 6 = .ok (.invokestatic 68, 3) := by decide +kernel
theorem dX7_heat_9 : decode cX7_heat 9 = .ok (.ifCond .eq 15, 3) := by decide +kernel
theorem dX7_heat_12 : decode cX7_heat 12 = .ok (.iload_n 2, 1) := by decide +kernel
theorem dX7_heat_13 : decode cX7_heat 13 = .ok (.i2l, 1) := by decide +kernel
theorem dX7_heat_14 : decode cX7_heat 14 = .ok (.lconst 0, 1) := by decide +kernel
theorem dX7_heat_15 : decode cX7_heat 15 = .ok (.ldc2_w 104, 3) := by decide +kernel
theorem dX7_heat_18 : decode cX7_heat 18 = .ok (.invokestatic 68, 3) := by decide +kernel
theorem dX7_heat_21 : decode cX7_heat 21 = .ok (.ifCond .ne 5, 3) := by decide +kernel
theorem dX7_heat_24 : decode cX7_heat 24 = .ok (.iconst (-1), 1) := by decide +kernel
theorem dX7_heat_25 : decode cX7_heat 25 = .ok (.ireturn, 1) := by decide +kernel
theorem dX7_heat_26 : decode cX7_heat 26 = .ok (.aload_n 0, 1) := by decide +kernel
theorem dX7_heat_27 : decode cX7_heat 27 = .ok (.getfield 22, 3) := by decide +kernel
theorem dX7_heat_30 : decode cX7_heat 30 = .ok (.iload_n 1, 1) := by decide +kernel
theorem dX7_heat_31 : decode cX7_heat 31 = .ok (.iaload, 1) := by decide +kernel
theorem dX7_heat_32 : decode cX7_heat 32 = .ok (.istore_n 3, 1) := by decide +kernel
theorem dX7_heat_33 : decode cX7_heat 33 = .ok (.aload_n 0, 1) := by decide +kernel
theorem dX7_heat_34 : decode cX7_heat 34 = .ok (.getfield 22, 3) := by decide +kernel
theorem dX7_heat_37 : decode cX7_heat 37 = .ok (.iload_n 1, 1) := by decide +kernel
theorem dX7_heat_38 : decode cX7_heat 38 = .ok (.iload_n 2, 1) := by decide +kernel
theorem dX7_heat_39 : decode cX7_heat 39 = .ok (.iastore, 1) := by decide +kernel
theorem dX7_heat_40 : decode cX7_heat 40 = .ok (.iload_n 3, 1) := by decide +kernel
theorem dX7_heat_41 : decode cX7_heat 41 = .ok (.ireturn, 1) := by decide +kernel
theorem dX7_rule_0 : decode cX7_rule 0 = .ok (.iload_n 1, 1) := by decide +kernel
theorem dX7_rule_1 : decode cX7_rule 1 = .ok (.i2l, 1) := by decide +kernel
theorem dX7_rule_2 : decode cX7_rule 2 = .ok (.lconst 0, 1) := by decide +kernel
theorem dX7_rule_3 : decode cX7_rule 3 = .ok (.lconst 1, 1) := by decide +kernel
theorem dX7_rule_4 : decode cX7_rule 4 = .ok (.invokestatic 68, 3) := by decide +kernel
theorem dX7_rule_7 : decode cX7_rule 7 = .ok (.ifCond .eq 25, 3) := by decide +kernel
theorem dX7_rule_10 : decode cX7_rule 10 = .ok (.iload_n 2, 1) := by decide +kernel
theorem dX7_rule_11 : decode cX7_rule 11 = .ok (.i2l, 1) := by decide +kernel
theorem dX7_rule_12 : decode cX7_rule 12 = .ok (.lconst 0, 1) := by decide +kernel
theorem dX7_rule_13 : decode cX7_rule 13 = .ok (.iload_n 1, 1) := by decide +kernel
theorem dX7_rule_14 : decode cX7_rule 14 = .ok (.ifCond .ne 9, 3) := by decide +kernel
theorem dX7_rule_17 : decode cX7_rule 17 = .ok (.ldc2_w 106, 3) := by decide +kernel
theorem dX7_rule_20 : decode cX7_rule 20 = .ok (.goto 6, 3) := by decide +kernel
theorem dX7_rule_23 : decode cX7_rule 23 = .ok (.ldc2_w 100, 3) := by decide +kernel
theorem dX7_rule_26 : decode cX7_rule 26 = .ok (.invokestatic 68, 3) := by decide +kernel
theorem dX7_rule_29 : decode cX7_rule 29 = .ok (.ifCond .ne 5, 3) := by decide +kernel
theorem dX7_rule_32 : decode cX7_rule 32 = .ok (.iconst (-1), 1) := by decide +kernel
theorem dX7_rule_33 : decode cX7_rule 33 = .ok (.ireturn, 1) := by decide +kernel
theorem dX7_rule_34 : decode cX7_rule 34 = .ok (.aload_n 0, 1) := by decide +kernel
theorem dX7_rule_35 : decode cX7_rule 35 = .ok (.getfield 25, 3) := by decide +kernel
theorem dX7_rule_38 : decode cX7_rule 38 = .ok (.iload_n 1, 1) := by decide +kernel
theorem dX7_rule_39 : decode cX7_rule 39 = .ok (.iaload, 1) := by decide +kernel
theorem dX7_rule_40 : decode cX7_rule 40 = .ok (.istore_n 3, 1) := by decide +kernel
theorem dX7_rule_41 : decode cX7_rule 41 = .ok (.aload_n 0, 1) := by decide +kernel
theorem dX7_rule_42 : decode cX7_rule 42 = .ok (.getfield 25, 3) := by decide +kernel
theorem dX7_rule_45 : decode cX7_rule 45 = .ok (.iload_n 1, 1) := by decide +kernel
theorem dX7_rule_46 : decode cX7_rule 46 = .ok (.iload_n 2, 1) := by decide +kernel
theorem dX7_rule_47 : decode cX7_rule 47 = .ok (.iastore, 1) := by decide +kernel
theorem dX7_rule_48 : decode cX7_rule 48 = .ok (.iload_n 3, 1) := by decide +kernel
theorem dX7_rule_49 : decode cX7_rule 49 = .ok (.ireturn, 1) := by decide +kernel
theorem dX7_type_0 : decode cX7_type 0 = .ok (.iload_n 3, 1) := by decide +kernel
theorem dX7_type_1 : decode cX7_type 1 = .ok (.i2l, 1) := by decide +kernel
theorem dX7_type_2 : decode cX7_type 2 = .ok (.lconst 1, 1) := by decide +kernel
theorem dX7_type_3 : decode cX7_type 3 = .ok (.ldc2_w 108, 3) := by decide +kernel
theorem dX7_type_6 : decode cX7_type 6 = .ok (.invokestatic 68, 3) := by decide +kernel
theorem dX7_type_9 : decode cX7_type 9 = .ok (.ifCond .ne 5, 3) := by decide +kernel
theorem dX7_type_12 : decode cX7_type 12 = .ok (.iconst (-1), 1) := by decide +kernel
theorem dX7_type_13 : decode cX7_type 13 = .ok (.ireturn, 1) := by decide +kernel
theorem dX7_type_14 : decode cX7_type 14 = .ok (.iconst 0, 1) := by decide +kernel
theorem dX7_type_15 : decode cX7_type 15 = .ok (.istore 4, 2) := by decide +kernel
theorem dX7_type_17 : decode cX7_type 17 = .ok (.iload 4, 2) := by decide +kernel
theorem dX7_type_19 : decode cX7_type 19 = .ok (.iload_n 3, 1) := by decide +kernel
theorem dX7_type_20 : decode cX7_type 20 = .ok (.if_icmp .ge 34, 3) := by decide +kernel
theorem dX7_type_23 : decode cX7_type 23 = .ok (.lload_n 1, 1) := by decide +kernel
theorem dX7_type_24 : decode cX7_type 24 = .ok (.bipush 8, 2) := by decide +kernel
theorem dX7_type_26 : decode cX7_type 26 = .ok (.iload 4, 2) := by decide +kernel
theorem dX7_type_28 : decode cX7_type 28 = .ok (.imul, 1) := by decide +kernel
theorem dX7_type_29 : decode cX7_type 29 = .ok (.lshr, 1) := by decide +kernel
theorem dX7_type_30 : decode cX7_type 30 = .ok (.ldc2_w 110, 3) := by decide +kernel
theorem dX7_type_33 : decode cX7_type 33 = .ok (.land, 1) := by decide +kernel
theorem dX7_type_34 : decode cX7_type 34 = .ok (.ldc2_w 112, 3) := by decide +kernel
theorem dX7_type_37 : decode cX7_type 37 = .ok (.ldc2_w 114, 3) := by decide +kernel
theorem dX7_type_40 : decode cX7_type 40 = .ok (.invokestatic 68, 3) := by decide +kernel
theorem dX7_type_43 : decode cX7_type 43 = .ok (.ifCond .ne 5, 3) := by decide +kernel
theorem dX7_type_46 : decode cX7_type 46 = .ok (.iconst (-1), 1) := by decide +kernel
theorem dX7_type_47 : decode cX7_type 47 = .ok (.ireturn, 1) := by decide +kernel
theorem dX7_type_48 : decode cX7_type 48 = .ok (.iinc 4 1, 3) := by decide +kernel
theorem dX7_type_51 : decode cX7_type 51 = .ok (.goto (-34), 3) := by decide +kernel
theorem dX7_type_54 : decode cX7_type 54 = .ok (.aload_n 0, 1) := by decide +kernel
theorem dX7_type_55 : decode cX7_type 55 = .ok (.getfield 116, 3) := by decide +kernel
theorem dX7_type_58 : decode cX7_type 58 = .ok (.iload_n 3, 1) := by decide +kernel
theorem dX7_type_59 : decode cX7_type 59 = .ok (.iadd, 1) := by decide +kernel
theorem dX7_type_60 : decode cX7_type 60 = .ok (.bipush 80, 2) := by decide +kernel
theorem dX7_type_62 : decode cX7_type 62 = .ok (.if_icmp .le 6, 3) := by decide +kernel
theorem dX7_type_65 : decode cX7_type 65 = .ok (.bipush (-3), 2) := by decide +kernel
theorem dX7_type_67 : decode cX7_type 67 = .ok (.ireturn, 1) := by decide +kernel
theorem dX7_type_68 : decode cX7_type 68 = .ok (.iload_n 3, 1) := by decide +kernel
theorem dX7_type_69 : decode cX7_type 69 = .ok (.iconst 1, 1) := by decide +kernel
theorem dX7_type_70 : decode cX7_type 70 = .ok (.isub, 1) := by decide +kernel
theorem dX7_type_71 : decode cX7_type 71 = .ok (.istore 4, 2) := by decide +kernel
theorem dX7_type_73 : decode cX7_type 73 = .ok (.iload 4, 2) := by decide +kernel
theorem dX7_type_75 : decode cX7_type 75 = .ok (.ifCond .lt 40, 3) := by decide +kernel
theorem dX7_type_78 : decode cX7_type 78 = .ok (.aload_n 0, 1) := by decide +kernel
theorem dX7_type_79 : decode cX7_type 79 = .ok (.getfield 34, 3) := by decide +kernel
theorem dX7_type_82 : decode cX7_type 82 = .ok (.aload_n 0, 1) := by decide +kernel
theorem dX7_type_83 : decode cX7_type 83 = .ok (.getfield 116, 3) := by decide +kernel
theorem dX7_type_86 : decode cX7_type 86 = .ok (.lload_n 1, 1) := by decide +kernel
theorem dX7_type_87 : decode cX7_type 87 = .ok (.bipush 8, 2) := by decide +kernel
theorem dX7_type_89 : decode cX7_type 89 = .ok (.iload 4, 2) := by decide +kernel
theorem dX7_type_91 : decode cX7_type 91 = .ok (.imul, 1) := by decide +kernel
theorem dX7_type_92 : decode cX7_type 92 = .ok (.lshr, 1) := by decide +kernel
theorem dX7_type_93 : decode cX7_type 93 = .ok (.ldc2_w 110, 3) := by decide +kernel
theorem dX7_type_96 : decode cX7_type 96 = .ok (.land, 1) := by decide +kernel
theorem dX7_type_97 : decode cX7_type 97 = .ok (.l2i, 1) := by decide +kernel
theorem dX7_type_98 : decode cX7_type 98 = .ok (.iastore, 1) := by decide +kernel
theorem dX7_type_99 : decode cX7_type 99 = .ok (.aload_n 0, 1) := by decide +kernel
theorem dX7_type_100 : decode cX7_type 100 = .ok (.dup, 1) := by decide +kernel
theorem dX7_type_101 : decode cX7_type 101 = .ok (.getfield 116, 3) := by decide +kernel
theorem dX7_type_104 : decode cX7_type 104 = .ok (.iconst 1, 1) := by decide +kernel
theorem dX7_type_105 : decode cX7_type 105 = .ok (.iadd, 1) := by decide +kernel
theorem dX7_type_106 : decode cX7_type 106 = .ok (.putfield 116, 3) := by decide +kernel
theorem dX7_type_109 : decode cX7_type 109 = .ok (.iinc 4 (-1), 3) := by decide +kernel
theorem dX7_type_112 : decode cX7_type 112 = .ok (.goto (-39), 3) := by decide +kernel
theorem dX7_type_115 : decode cX7_type 115 = .ok (.aload_n 0, 1) := by decide +kernel
theorem dX7_type_116 : decode cX7_type 116 = .ok (.getfield 116, 3) := by decide +kernel
theorem dX7_type_119 : decode cX7_type 119 = .ok (.ireturn, 1) := by decide +kernel
theorem dX7_here_0 : decode cX7_here 0 = .ok (.aload_n 0, 1) := by decide +kernel
theorem dX7_here_1 : decode cX7_here 1 = .ok (.getfield 119, 3) := by decide +kernel
theorem dX7_here_4 : decode cX7_here 4 = .ok (.aload_n 0, 1) := by decide +kernel
theorem dX7_here_5 : decode cX7_here 5 = .ok (.getfield 116, 3) := by decide +kernel
theorem dX7_here_8 : decode cX7_here 8 = .ok (.if_icmp .ge 30, 3) := by decide +kernel
theorem dX7_here_11 : decode cX7_here 11 = .ok (.aload_n 0, 1) := by decide +kernel
theorem dX7_here_12 : decode cX7_here 12 = .ok (.getfield 34, 3) := by decide +kernel
theorem dX7_here_15 : decode cX7_here 15 = .ok (.aload_n 0, 1) := by decide +kernel
theorem dX7_here_16 : decode cX7_here 16 = .ok (.getfield 119, 3) := by decide +kernel
theorem dX7_here_19 : decode cX7_here 19 = .ok (.iaload, 1) := by decide +kernel
theorem dX7_here_20 : decode cX7_here 20 = .ok (.bipush 32, 2) := by decide +kernel
theorem dX7_here_22 : decode cX7_here 22 = .ok (.if_icmp .ne 16, 3) := by decide +kernel
theorem dX7_here_25 : decode cX7_here 25 = .ok (.aload_n 0, 1) := by decide +kernel
theorem dX7_here_26 : decode cX7_here 26 = .ok (.dup, 1) := by decide +kernel
theorem dX7_here_27 : decode cX7_here 27 = .ok (.getfield 119, 3) := by decide +kernel
theorem dX7_here_30 : decode cX7_here 30 = .ok (.iconst 1, 1) := by decide +kernel
theorem dX7_here_31 : decode cX7_here 31 = .ok (.iadd, 1) := by decide +kernel
theorem dX7_here_32 : decode cX7_here 32 = .ok (.putfield 119, 3) := by decide +kernel
theorem dX7_here_35 : decode cX7_here 35 = .ok (.goto (-35), 3) := by decide +kernel
theorem dX7_here_38 : decode cX7_here 38 = .ok (.aload_n 0, 1) := by decide +kernel
theorem dX7_here_39 : decode cX7_here 39 = .ok (.getfield 119, 3) := by decide +kernel
theorem dX7_here_42 : decode cX7_here 42 = .ok (.aload_n 0, 1) := by decide +kernel
theorem dX7_here_43 : decode cX7_here 43 = .ok (.getfield 116, 3) := by decide +kernel
theorem dX7_here_46 : decode cX7_here 46 = .ok (.if_icmp .ge 15, 3) := by decide +kernel
theorem dX7_here_49 : decode cX7_here 49 = .ok (.aload_n 0, 1) := by decide +kernel
theorem dX7_here_50 : decode cX7_here 50 = .ok (.getfield 34, 3) := by decide +kernel
theorem dX7_here_53 : decode cX7_here 53 = .ok (.aload_n 0, 1) := by decide +kernel
theorem dX7_here_54 : decode cX7_here 54 = .ok (.getfield 119, 3) := by decide +kernel
theorem dX7_here_57 : decode cX7_here 57 = .ok (.iaload, 1) := by decide +kernel
theorem dX7_here_58 : decode cX7_here 58 = .ok (.goto 4, 3) := by decide +kernel
theorem dX7_here_61 : decode cX7_here 61 = .ok (.iconst 0, 1) := by decide +kernel
theorem dX7_here_62 : decode cX7_here 62 = .ok (.ireturn, 1) := by decide +kernel
theorem dX7_has_0 : decode cX7_has 0 = .ok (.aload_n 0, 1) := by decide +kernel
theorem dX7_has_1 : decode cX7_has 1 = .ok (.getfield 122, 3) := by decide +kernel
theorem dX7_has_4 : decode cX7_has 4 = .ok (.ifCond .ne 15, 3) := by decide +kernel
theorem dX7_has_7 : decode cX7_has 7 = .ok (.aload_n 0, 1) := by decide +kernel
theorem dX7_has_8 : decode cX7_has 8 = .ok (.invokevirtual 126, 3) := by decide +kernel
theorem dX7_has_11 : decode cX7_has 11 = .ok (.iload_n 1, 1) := by decide +kernel
theorem dX7_has_12 : decode cX7_has 12 = .ok (.if_icmp .ne 7, 3) := by decide +kernel
theorem dX7_has_15 : decode cX7_has 15 = .ok (.iconst 1, 1) := by decide +kernel
theorem dX7_has_16 : decode cX7_has 16 = .ok (.goto 4, 3) := by decide +kernel
theorem dX7_has_19 : decode cX7_has 19 = .ok (.iconst 0, 1) := by decide +kernel
theorem dX7_has_20 : decode cX7_has 20 = .ok (.istore_n 2, 1) := by decide +kernel
theorem dX7_has_21 : decode cX7_has 21 = .ok (.aload_n 0, 1) := by decide +kernel
theorem dX7_has_22 : decode cX7_has 22 = .ok (.dup, 1) := by decide +kernel
theorem dX7_has_23 : decode cX7_has 23 = .ok (.getfield 119, 3) := by decide +kernel
theorem dX7_has_26 : decode cX7_has 26 = .ok (.iload_n 2, 1) := by decide +kernel
theorem dX7_has_27 : decode cX7_has 27 = .ok (.ifCond .eq 7, 3) := by decide +kernel
theorem dX7_has_30 : decode cX7_has 30 = .ok (.iconst 1, 1) := by decide +kernel
theorem dX7_has_31 : decode cX7_has 31 = .ok (.goto 4, 3) := by decide +kernel
theorem dX7_has_34 : decode cX7_has 34 = .ok (.iconst 0, 1) := by decide +kernel
theorem dX7_has_35 : decode cX7_has 35 = .ok (.iadd, 1) := by decide +kernel
theorem dX7_has_36 : decode cX7_has 36 = .ok (.putfield 119, 3) := by decide +kernel
theorem dX7_has_39 : decode cX7_has 39 = .ok (.iload_n 2, 1) := by decide +kernel
theorem dX7_has_40 : decode cX7_has 40 = .ok (.ireturn, 1) := by decide +kernel
theorem dX7_byteOf_0 : decode cX7_byteOf 0 = .ok (.aload_n 0, 1) := by decide +kernel
theorem dX7_byteOf_1 : decode cX7_byteOf 1 = .ok (.getfield 122, 3) := by decide +kernel
theorem dX7_byteOf_4 : decode cX7_byteOf 4 = .ok (.ifCond .eq 7, 3) := by decide +kernel
theorem dX7_byteOf_7 : decode cX7_byteOf 7 = .ok (.iconst 0, 1) := by decide +kernel
theorem dX7_byteOf_8 : decode cX7_byteOf 8 = .ok (.goto 7, 3) := by decide +kernel
theorem dX7_byteOf_11 : decode cX7_byteOf 11 = .ok (.aload_n 0, 1) := by decide +kernel
theorem dX7_byteOf_12 : decode cX7_byteOf 12 = .ok (.invokevirtual 126, 3) := by decide +kernel
theorem dX7_byteOf_15 : decode cX7_byteOf 15 = .ok (.istore_n 3, 1) := by decide +kernel
theorem dX7_byteOf_16 : decode cX7_byteOf 16 = .ok (.aload_n 0, 1) := by decide +kernel
theorem dX7_byteOf_17 : decode cX7_byteOf 17 = .ok (.aload_n 0, 1) := by decide +kernel
theorem dX7_byteOf_18 : decode cX7_byteOf 18 = .ok (.getfield 122, 3) := by decide +kernel
theorem dX7_byteOf_21 : decode cX7_byteOf 21 = .ok (.ifCond .ne 15, 3) := by decide +kernel
theorem dX7_byteOf_24 : decode cX7_byteOf 24 = .ok (.iload_n 3, 1) := by decide +kernel
theorem dX7_byteOf_25 : decode cX7_byteOf 25 = .ok (.i2l, 1) := by decide +kernel
theorem dX7_byteOf_26 : decode cX7_byteOf 26 = .ok (.iload_n 1, 1) := by decide +kernel
theorem dX7_byteOf_27 : decode cX7_byteOf 27 = .ok (.i2l, 1) := by decide +kernel
theorem dX7_byteOf_28 : decode cX7_byteOf 28 = .ok (.iload_n 2, 1) := by decide +kernel
theorem dX7_byteOf_29 : decode cX7_byteOf 29 = .ok (.i2l, 1) := by decide +kernel
theorem dX7_byteOf_30 : decode cX7_byteOf 30 = .ok (.invokestatic 68, 3) := by decide +kernel
theorem dX7_byteOf_33 : decode cX7_byteOf 33 = .ok (.ifCond .ne 7, 3) := by decide +kernel
theorem dX7_byteOf_36 : decode cX7_byteOf 36 = .ok (.iconst 1, 1) := by decide +kernel
theorem dX7_byteOf_37 : decode cX7_byteOf 37 = .ok (.goto 4, 3) := by decide +kernel
theorem dX7_byteOf_40 : decode cX7_byteOf 40 = .ok (.iconst 0, 1) := by decide +kernel
theorem dX7_byteOf_41 : decode cX7_byteOf 41 = .ok (.putfield 122, 3) := by decide +kernel
theorem dX7_byteOf_44 : decode cX7_byteOf 44 = .ok (.aload_n 0, 1) := by decide +kernel
theorem dX7_byteOf_45 : decode cX7_byteOf 45 = .ok (.dup, 1) := by decide +kernel
theorem dX7_byteOf_46 : decode cX7_byteOf 46 = .ok (.getfield 119, 3) := by decide +kernel
theorem dX7_byteOf_49 : decode cX7_byteOf 49 = .ok (.aload_n 0, 1) := by decide +kernel
theorem dX7_byteOf_50 : decode cX7_byteOf 50 = .ok (.getfield 122, 3) := by decide +kernel
theorem dX7_byteOf_53 : decode cX7_byteOf 53 = .ok (.ifCond .eq 7, 3) := by decide +kernel
theorem dX7_byteOf_56 : decode cX7_byteOf 56 = .ok (.iconst 0, 1) := by decide +kernel
theorem dX7_byteOf_57 : decode cX7_byteOf 57 = .ok (.goto 4, 3) := by decide +kernel
theorem dX7_byteOf_60 : decode cX7_byteOf 60 = .ok (.iconst 1, 1) := by decide +kernel
theorem dX7_byteOf_61 : decode cX7_byteOf 61 = .ok (.iadd, 1) := by decide +kernel
theorem dX7_byteOf_62 : decode cX7_byteOf 62 = .ok (.putfield 119, 3) := by decide +kernel
theorem dX7_byteOf_65 : decode cX7_byteOf 65 = .ok (.iload_n 3, 1) := by decide +kernel
theorem dX7_byteOf_66 : decode cX7_byteOf 66 = .ok (.iload_n 1, 1) := by decide +kernel
theorem dX7_byteOf_67 : decode cX7_byteOf 67 = .ok (.isub, 1) := by decide +kernel
theorem dX7_byteOf_68 : decode cX7_byteOf 68 = .ok (.ireturn, 1) := by decide +kernel
theorem dX7_number_0 : decode cX7_number 0 = .ok (.aload_n 0, 1) := by decide +kernel
theorem dX7_number_1 : decode cX7_number 1 = .ok (.getfield 122, 3) := by decide +kernel
theorem dX7_number_4 : decode cX7_number 4 = .ok (.ifCond .ne 20, 3) := by decide +kernel
theorem dX7_number_7 : decode cX7_number 7 = .ok (.aload_n 0, 1) := by decide +kernel
theorem dX7_number_8 : decode cX7_number 8 = .ok (.invokevirtual 126, 3) := by decide +kernel
theorem dX7_number_11 : decode cX7_number 11 = .ok (.i2l, 1) := by decide +kernel
theorem dX7_number_12 : decode cX7_number 12 = .ok (.ldc2_w 130, 3) := by decide +kernel
theorem dX7_number_15 : decode cX7_number 15 = .ok (.ldc2_w 132, 3) := by decide +kernel
theorem dX7_number_18 : decode cX7_number 18 = .ok (.invokestatic 68, 3) := by decide +kernel
theorem dX7_number_21 : decode cX7_number 21 = .ok (.ifCond .ne 10, 3) := by decide +kernel
theorem dX7_number_24 : decode cX7_number 24 = .ok (.aload_n 0, 1) := by decide +kernel
theorem dX7_number_25 : decode cX7_number 25 = .ok (.iconst 1, 1) := by decide +kernel
theorem dX7_number_26 : decode cX7_number 26 = .ok (.putfield 122, 3) := by decide +kernel
theorem dX7_number_29 : decode cX7_number 29 = .ok (.iconst 0, 1) := by decide +kernel
theorem dX7_number_30 : decode cX7_number 30 = .ok (.ireturn, 1) := by decide +kernel
theorem dX7_number_31 : decode cX7_number 31 = .ok (.aload_n 0, 1) := by decide +kernel
theorem dX7_number_32 : decode cX7_number 32 = .ok (.getfield 119, 3) := by decide +kernel
theorem dX7_number_35 : decode cX7_number 35 = .ok (.istore_n 3, 1) := by decide +kernel
theorem dX7_number_36 : decode cX7_number 36 = .ok (.iconst 0, 1) := by decide +kernel
theorem dX7_number_37 : decode cX7_number 37 = .ok (.istore 4, 2) := by decide +kernel
theorem dX7_number_39 : decode cX7_number 39 = .ok (.aload_n 0, 1) := by decide +kernel
theorem dX7_number_40 : decode cX7_number 40 = .ok (.getfield 119, 3) := by decide +kernel
theorem dX7_number_43 : decode cX7_number 43 = .ok (.aload_n 0, 1) := by decide +kernel
theorem dX7_number_44 : decode cX7_number 44 = .ok (.getfield 116, 3) := by decide +kernel
theorem dX7_number_47 : decode cX7_number 47 = .ok (.if_icmp .ge 70, 3) := by decide +kernel
theorem dX7_number_50 : decode cX7_number 50 = .ok (.aload_n 0, 1) := by decide +kernel
theorem dX7_number_51 : decode cX7_number 51 = .ok (.getfield 34, 3) := by decide +kernel
theorem dX7_number_54 : decode cX7_number 54 = .ok (.aload_n 0, 1) := by decide +kernel
theorem dX7_number_55 : decode cX7_number 55 = .ok (.getfield 119, 3) := by decide +kernel
theorem dX7_number_58 : decode cX7_number 58 = .ok (.iaload, 1) := by decide +kernel
theorem dX7_number_59 : decode cX7_number 59 = .ok (.i2l, 1) := by decide +kernel
theorem dX7_number_60 : decode cX7_number 60 = .ok (.ldc2_w 130, 3) := by decide +kernel
theorem dX7_number_63 : decode cX7_number 63 = .ok (.ldc2_w 132, 3) := by decide +kernel
theorem dX7_number_66 : decode cX7_number 66 = .ok (.invokestatic 68, 3) := by decide +kernel
theorem dX7_number_69 : decode cX7_number 69 = .ok (.ifCond .eq 48, 3) := by decide +kernel
theorem dX7_number_72 : decode cX7_number 72 = .ok (.iload 4, 2) := by decide +kernel
theorem dX7_number_74 : decode cX7_number 74 = .ok (.ldc 134, 2) := by decide +kernel
theorem dX7_number_76 : decode cX7_number 76 = .ok (.if_icmp .le 8, 3) := by decide +kernel
theorem dX7_number_79 : decode cX7_number 79 = .ok (.iload 4, 2) := by decide +kernel
theorem dX7_number_81 : decode cX7_number 81 = .ok (.goto 21, 3) := by decide +kernel
theorem dX7_number_84 : decode cX7_number 84 = .ok (.bipush 10, 2) := by decide +kernel
theorem dX7_number_86 : decode cX7_number 86 = .ok (.iload 4, 2) := by decide +kernel
theorem dX7_number_88 : decode cX7_number 88 = .ok (.imul, 1) := by decide +kernel
theorem dX7_number_89 : decode cX7_number 89 = .ok (.aload_n 0, 1) := by decide +kernel
theorem dX7_number_90 : decode cX7_number 90 = .ok (.getfield 34, 3) := by decide +kernel
theorem dX7_number_93 : decode cX7_number 93 = .ok (.aload_n 0, 1) := by decide +kernel
theorem dX7_number_94 : decode cX7_number 94 = .ok (.getfield 119, 3) := by decide +kernel
theorem dX7_number_97 : decode cX7_number 97 = .ok (.iaload, 1) := by decide +kernel
theorem dX7_number_98 : decode cX7_number 98 = .ok (.iadd, 1) := by decide +kernel
theorem dX7_number_99 : decode cX7_number 99 = .ok (.bipush 48, 2) := by decide +kernel
theorem dX7_number_101 : decode cX7_number 101 = .ok (.isub, 1) := by decide +kernel
theorem dX7_number_102 : decode cX7_number 102 = .ok (.istore 4, 2) := by decide +kernel
theorem dX7_number_104 : decode cX7_number 104 = .ok (.aload_n 0, 1) := by decide +kernel
theorem dX7_number_105 : decode cX7_number 105 = .ok (.dup, 1) := by decide +kernel
theorem dX7_number_106 : decode cX7_number 106 = .ok (.getfield 119, 3) := by decide +kernel
theorem dX7_number_109 : decode cX7_number 109 = .ok (.iconst 1, 1) := by decide +kernel
theorem dX7_number_110 : decode cX7_number 110 = .ok (.iadd, 1) := by decide +kernel
theorem dX7_number_111 : decode cX7_number 111 = .ok (.putfield 119, 3) := by decide +kernel
theorem dX7_number_114 : decode cX7_number 114 = .ok (.goto (-75), 3) := by decide +kernel
theorem dX7_number_117 : decode cX7_number 117 = .ok (.aload_n 0, 1) := by decide +kernel
theorem dX7_number_118 : decode cX7_number 118 = .ok (.iload 4, 2) := by decide +kernel
theorem dX7_number_120 : decode cX7_number 120 = .ok (.i2l, 1) := by decide +kernel
theorem dX7_number_121 : decode cX7_number 121 = .ok (.iload_n 1, 1) := by decide +kernel
theorem dX7_number_122 : decode cX7_number 122 = .ok (.i2l, 1) := by decide +kernel
theorem dX7_number_123 : decode cX7_number 123 = .ok (.iload_n 2, 1) := by decide +kernel
theorem dX7_number_124 : decode cX7_number 124 = .ok (.i2l, 1) := by decide +kernel
theorem dX7_number_125 : decode cX7_number 125 = .ok (.invokestatic 68, 3) := by decide +kernel
theorem dX7_number_128 : decode cX7_number 128 = .ok (.ifCond .ne 7, 3) := by decide +kernel
theorem dX7_number_131 : decode cX7_number 131 = .ok (.iconst 1, 1) := by decide +kernel
theorem dX7_number_132 : decode cX7_number 132 = .ok (.goto 4, 3) := by decide +kernel
theorem dX7_number_135 : decode cX7_number 135 = .ok (.iconst 0, 1) := by decide +kernel
theorem dX7_number_136 : decode cX7_number 136 = .ok (.putfield 122, 3) := by decide +kernel
theorem dX7_number_139 : decode cX7_number 139 = .ok (.aload_n 0, 1) := by decide +kernel
theorem dX7_number_140 : decode cX7_number 140 = .ok (.aload_n 0, 1) := by decide +kernel
theorem dX7_number_141 : decode cX7_number 141 = .ok (.getfield 122, 3) := by decide +kernel
theorem dX7_number_144 : decode cX7_number 144 = .ok (.ifCond .eq 7, 3) := by decide +kernel
theorem dX7_number_147 : decode cX7_number 147 = .ok (.iload_n 3, 1) := by decide +kernel
theorem dX7_number_148 : decode cX7_number 148 = .ok (.goto 7, 3) := by decide +kernel
theorem dX7_number_151 : decode cX7_number 151 = .ok (.aload_n 0, 1) := by decide +kernel
theorem dX7_number_152 : decode cX7_number 152 = .ok (.getfield 119, 3) := by decide +kernel
theorem dX7_number_155 : decode cX7_number 155 = .ok (.putfield 119, 3) := by decide +kernel
theorem dX7_number_158 : decode cX7_number 158 = .ok (.iload 4, 2) := by decide +kernel
theorem dX7_number_160 : decode cX7_number 160 = .ok (.ireturn, 1) := by decide +kernel
theorem dX7_coats_0 : decode cX7_coats 0 = .ok (.aload_n 0, 1) := by decide +kernel
theorem dX7_coats_1 : decode cX7_coats 1 = .ok (.iload_n 1, 1) := by decide +kernel
theorem dX7_coats_2 : decode cX7_coats 2 = .ok (.invokevirtual 80, 3) := by decide +kernel
theorem dX7_coats_5 : decode cX7_coats 5 = .ok (.ifCond .ne 5, 3) := by decide +kernel
theorem dX7_coats_8 : decode cX7_coats 8 = .ok (.iconst (-1), 1) := by decide +kernel
theorem dX7_coats_9 : decode cX7_coats 9 = .ok (.ireturn, 1) := by decide +kernel
theorem dX7_coats_10 : decode cX7_coats 10 = .ok (.aload_n 0, 1) := by decide +kernel
theorem dX7_coats_11 : decode cX7_coats 11 = .ok (.iconst 0, 1) := by decide +kernel
theorem dX7_coats_12 : decode cX7_coats 12 = .ok (.putfield 119, 3) := by decide +kernel
theorem dX7_coats_15 : decode cX7_coats 15 = .ok (.aload_n 0, 1) := by decide +kernel
theorem dX7_coats_16 : decode cX7_coats 16 = .ok (.iconst 0, 1) := by decide +kernel
theorem dX7_coats_17 : decode cX7_coats 17 = .ok (.putfield 122, 3) := by decide +kernel
theorem dX7_coats_20 : decode cX7_coats 20 = .ok (.iconst 0, 1) := by decide +kernel
theorem dX7_coats_21 : decode cX7_coats 21 = .ok (.istore_n 2, 1) := by decide +kernel
theorem dX7_coats_22 : decode cX7_coats 22 = .ok (.iconst 1, 1) := by decide +kernel
theorem dX7_coats_23 : decode cX7_coats 23 = .ok (.istore_n 3, 1) := by decide +kernel
theorem dX7_coats_24 : decode cX7_coats 24 = .ok (.iload_n 3, 1) := by decide +kernel
theorem dX7_coats_25 : decode cX7_coats 25 = .ok (.ifCond .eq 127, 3) := by decide +kernel
theorem dX7_coats_28 : decode cX7_coats 28 = .ok (.aload_n 0, 1) := by decide +kernel
theorem dX7_coats_29 : decode cX7_coats 29 = .ok (.getfield 37, 3) := by decide +kernel
theorem dX7_coats_32 : decode cX7_coats 32 = .ok (.iconst 4, 1) := by decide +kernel
theorem dX7_coats_33 : decode cX7_coats 33 = .ok (.iload_n 2, 1) := by decide +kernel
theorem dX7_coats_34 : decode cX7_coats 34 = .ok (.imul, 1) := by decide +kernel
theorem dX7_coats_35 : decode cX7_coats 35 = .ok (.aload_n 0, 1) := by decide +kernel
theorem dX7_coats_36 : decode cX7_coats 36 = .ok (.bipush 97, 2) := by decide +kernel
theorem dX7_coats_38 : decode cX7_coats 38 = .ok (.bipush 101, 2) := by decide +kernel
theorem dX7_coats_40 : decode cX7_coats 40 = .ok (.invokevirtual 135, 3) := by decide +kernel
theorem dX7_coats_43 : decode cX7_coats 43 = .ok (.iastore, 1) := by decide +kernel
theorem dX7_coats_44 : decode cX7_coats 44 = .ok (.aload_n 0, 1) := by decide +kernel
theorem dX7_coats_45 : decode cX7_coats 45 = .ok (.getfield 37, 3) := by decide +kernel
theorem dX7_coats_48 : decode cX7_coats 48 = .ok (.iconst 4, 1) := by decide +kernel
theorem dX7_coats_49 : decode cX7_coats 49 = .ok (.iload_n 2, 1) := by decide +kernel
theorem dX7_coats_50 : decode cX7_coats 50 = .ok (.imul, 1) := by decide +kernel
theorem dX7_coats_51 : decode cX7_coats 51 = .ok (.iconst 1, 1) := by decide +kernel
theorem dX7_coats_52 : decode cX7_coats 52 = .ok (.iadd, 1) := by decide +kernel
theorem dX7_coats_53 : decode cX7_coats 53 = .ok (.aload_n 0, 1) := by decide +kernel
theorem dX7_coats_54 : decode cX7_coats 54 = .ok (.iconst 1, 1) := by decide +kernel
theorem dX7_coats_55 : decode cX7_coats 55 = .ok (.sipush 9999, 3) := by decide +kernel
theorem dX7_coats_58 : decode cX7_coats 58 = .ok (.invokevirtual 139, 3) := by decide +kernel
theorem dX7_coats_61 : decode cX7_coats 61 = .ok (.iastore, 1) := by decide +kernel
theorem dX7_coats_62 : decode cX7_coats 62 = .ok (.aload_n 0, 1) := by decide +kernel
theorem dX7_coats_63 : decode cX7_coats 63 = .ok (.getfield 37, 3) := by decide +kernel
theorem dX7_coats_66 : decode cX7_coats 66 = .ok (.iconst 4, 1) := by decide +kernel
theorem dX7_coats_67 : decode cX7_coats 67 = .ok (.iload_n 2, 1) := by decide +kernel
theorem dX7_coats_68 : decode cX7_coats 68 = .ok (.imul, 1) := by decide +kernel
theorem dX7_coats_69 : decode cX7_coats 69 = .ok (.iconst 2, 1) := by decide +kernel
theorem dX7_coats_70 : decode cX7_coats 70 = .ok (.iadd, 1) := by decide +kernel
theorem dX7_coats_71 : decode cX7_coats 71 = .ok (.aload_n 0, 1) := by decide +kernel
theorem dX7_coats_72 : decode cX7_coats 72 = .ok (.bipush 114, 2) := by decide +kernel
theorem dX7_coats_74 : decode cX7_coats 74 = .ok (.invokevirtual 142, 3) := by decide +kernel
theorem dX7_coats_77 : decode cX7_coats 77 = .ok (.ifCond .eq 13, 3) := by decide +kernel
theorem dX7_coats_80 : decode cX7_coats 80 = .ok (.aload_n 0, 1) := by decide +kernel
theorem dX7_coats_81 : decode cX7_coats 81 = .ok (.iconst 0, 1) := by decide +kernel
theorem dX7_coats_82 : decode cX7_coats 82 = .ok (.bipush 20, 2) := by decide +kernel
theorem dX7_coats_84 : decode cX7_coats 84 = .ok (.invokevirtual 139, 3) := by decide +kernel
theorem dX7_coats_87 : decode cX7_coats 87 = .ok (.goto 4, 3) := by decide +kernel
theorem dX7_coats_90 : decode cX7_coats 90 = .ok (.iconst 0, 1) := by decide +kernel
theorem dX7_coats_91 : decode cX7_coats 91 = .ok (.iastore, 1) := by decide +kernel
theorem dX7_coats_92 : decode cX7_coats 92 = .ok (.aload_n 0, 1) := by decide +kernel
theorem dX7_coats_93 : decode cX7_coats 93 = .ok (.getfield 37, 3) := by decide +kernel
theorem dX7_coats_96 : decode cX7_coats 96 = .ok (.iconst 4, 1) := by decide +kernel
theorem dX7_coats_97 : decode cX7_coats 97 = .ok (.iload_n 2, 1) := by decide +kernel
theorem dX7_coats_98 : decode cX7_coats 98 = .ok (.imul, 1) := by decide +kernel
theorem dX7_coats_99 : decode cX7_coats 99 = .ok (.iconst 3, 1) := by decide +kernel
theorem dX7_coats_100 : decode cX7_coats 100 = .ok (.iadd, 1) := by decide +kernel
theorem dX7_coats_101 : decode cX7_coats 101 = .ok (.aload_n 0, 1) := by decide +kernel
theorem dX7_coats_102 : decode cX7_coats 102 = .ok (.bipush 116, 2) := by decide +kernel
theorem dX7_coats_104 : decode cX7_coats 104 = .ok (.invokevirtual 142, 3) := by decide +kernel
theorem dX7_coats_107 : decode cX7_coats 107 = .ok (.ifCond .eq 16, 3) := by decide +kernel
theorem dX7_coats_110 : decode cX7_coats 110 = .ok (.iconst 1, 1) := by decide +kernel
theorem dX7_coats_111 : decode cX7_coats 111 = .ok (.aload_n 0, 1) := by decide +kernel
theorem dX7_coats_112 : decode cX7_coats 112 = .ok (.bipush 49, 2) := by decide +kernel
theorem dX7_coats_114 : decode cX7_coats 114 = .ok (.bipush 57, 2) := by decide +kernel
theorem dX7_coats_116 : decode cX7_coats 116 = .ok (.invokevirtual 135, 3) := by decide +kernel
theorem dX7_coats_119 : decode cX7_coats 119 = .ok (.iadd, 1) := by decide +kernel
theorem dX7_coats_120 : decode cX7_coats 120 = .ok (.goto 4, 3) := by decide +kernel
theorem dX7_coats_123 : decode cX7_coats 123 = .ok (.iconst 1, 1) := by decide +kernel
theorem dX7_coats_124 : decode cX7_coats 124 = .ok (.iastore, 1) := by decide +kernel
theorem dX7_coats_125 : decode cX7_coats 125 = .ok (.iinc 2 1, 3) := by decide +kernel
theorem dX7_coats_128 : decode cX7_coats 128 = .ok (.iload_n 2, 1) := by decide +kernel
theorem dX7_coats_129 : decode cX7_coats 129 = .ok (.bipush 6, 2) := by decide +kernel
theorem dX7_coats_131 : decode cX7_coats 131 = .ok (.if_icmp .ge 16, 3) := by decide +kernel
theorem dX7_coats_134 : decode cX7_coats 134 = .ok (.aload_n 0, 1) := by decide +kernel
theorem dX7_coats_135 : decode cX7_coats 135 = .ok (.bipush 59, 2) := by decide +kernel
theorem dX7_coats_137 : decode cX7_coats 137 = .ok (.invokevirtual 142, 3) := by decide +kernel
theorem dX7_coats_140 : decode cX7_coats 140 = .ok (.ifCond .eq 7, 3) := by decide +kernel
theorem dX7_coats_143 : decode cX7_coats 143 = .ok (.iconst 1, 1) := by decide +kernel
theorem dX7_coats_144 : decode cX7_coats 144 = .ok (.goto 4, 3) := by decide +kernel
theorem dX7_coats_147 : decode cX7_coats 147 = .ok (.iconst 0, 1) := by decide +kernel
theorem dX7_coats_148 : decode cX7_coats 148 = .ok (.istore_n 3, 1) := by decide +kernel
theorem dX7_coats_149 : decode cX7_coats 149 = .ok (.goto (-125), 3) := by decide +kernel
theorem dX7_coats_152 : decode cX7_coats 152 = .ok (.aload_n 0, 1) := by decide +kernel
theorem dX7_coats_153 : decode cX7_coats 153 = .ok (.aload_n 0, 1) := by decide +kernel
theorem dX7_coats_154 : decode cX7_coats 154 = .ok (.getfield 122, 3) := by decide +kernel
theorem dX7_coats_157 : decode cX7_coats 157 = .ok (.ifCond .ne 10, 3) := by decide +kernel
theorem dX7_coats_160 : decode cX7_coats 160 = .ok (.aload_n 0, 1) := by decide +kernel
theorem dX7_coats_161 : decode cX7_coats 161 = .ok (.invokevirtual 126, 3) := by decide +kernel
theorem dX7_coats_164 : decode cX7_coats 164 = .ok (.ifCond .eq 7, 3) := by decide +kernel
theorem dX7_coats_167 : decode cX7_coats 167 = .ok (.iconst 1, 1) := by decide +kernel
theorem dX7_coats_168 : decode cX7_coats 168 = .ok (.goto 4, 3) := by decide +kernel
theorem dX7_coats_171 : decode cX7_coats 171 = .ok (.iconst 0, 1) := by decide +kernel
theorem dX7_coats_172 : decode cX7_coats 172 = .ok (.putfield 122, 3) := by decide +kernel
theorem dX7_coats_175 : decode cX7_coats 175 = .ok (.aload_n 0, 1) := by decide +kernel
theorem dX7_coats_176 : decode cX7_coats 176 = .ok (.iconst 0, 1) := by decide +kernel
theorem dX7_coats_177 : decode cX7_coats 177 = .ok (.putfield 116, 3) := by decide +kernel
theorem dX7_coats_180 : decode cX7_coats 180 = .ok (.aload_n 0, 1) := by decide +kernel
theorem dX7_coats_181 : decode cX7_coats 181 = .ok (.getfield 122, 3) := by decide +kernel
theorem dX7_coats_184 : decode cX7_coats 184 = .ok (.ifCond .eq 11, 3) := by decide +kernel
theorem dX7_coats_187 : decode cX7_coats 187 = .ok (.bipush (-20), 2) := by decide +kernel
theorem dX7_coats_189 : decode cX7_coats 189 = .ok (.aload_n 0, 1) := by decide +kernel
theorem dX7_coats_190 : decode cX7_coats 190 = .ok (.getfield 119, 3) := by decide +kernel
theorem dX7_coats_193 : decode cX7_coats 193 = .ok (.isub, 1) := by decide +kernel
theorem dX7_coats_194 : decode cX7_coats 194 = .ok (.ireturn, 1) := by decide +kernel
theorem dX7_coats_195 : decode cX7_coats 195 = .ok (.aload_n 0, 1) := by decide +kernel
theorem dX7_coats_196 : decode cX7_coats 196 = .ok (.getfield 7, 3) := by decide +kernel
theorem dX7_coats_199 : decode cX7_coats 199 = .ok (.bipush 40, 2) := by decide +kernel
theorem dX7_coats_201 : decode cX7_coats 201 = .ok (.iload_n 1, 1) := by decide +kernel
theorem dX7_coats_202 : decode cX7_coats 202 = .ok (.imul, 1) := by decide +kernel
theorem dX7_coats_203 : decode cX7_coats 203 = .ok (.iconst 3, 1) := by decide +kernel
theorem dX7_coats_204 : decode cX7_coats 204 = .ok (.iadd, 1) := by decide +kernel
theorem dX7_coats_205 : decode cX7_coats 205 = .ok (.iload_n 2, 1) := by decide +kernel
theorem dX7_coats_206 : decode cX7_coats 206 = .ok (.iastore, 1) := by decide +kernel
theorem dX7_coats_207 : decode cX7_coats 207 = .ok (.iconst 0, 1) := by decide +kernel
theorem dX7_coats_208 : decode cX7_coats 208 = .ok (.istore 4, 2) := by decide +kernel
theorem dX7_coats_210 : decode cX7_coats 210 = .ok (.iload 4, 2) := by decide +kernel
theorem dX7_coats_212 : decode cX7_coats 212 = .ok (.iconst 4, 1) := by decide +kernel
theorem dX7_coats_213 : decode cX7_coats 213 = .ok (.iload_n 2, 1) := by decide +kernel
theorem dX7_coats_214 : decode cX7_coats 214 = .ok (.imul, 1) := by decide +kernel
theorem dX7_coats_215 : decode cX7_coats 215 = .ok (.if_icmp .ge 31, 3) := by decide +kernel
theorem dX7_coats_218 : decode cX7_coats 218 = .ok (.aload_n 0, 1) := by decide +kernel
theorem dX7_coats_219 : decode cX7_coats 219 = .ok (.getfield 7, 3) := by decide +kernel
theorem dX7_coats_222 : decode cX7_coats 222 = .ok (.bipush 40, 2) := by decide +kernel
theorem dX7_coats_224 : decode cX7_coats 224 = .ok (.iload_n 1, 1) := by decide +kernel
theorem dX7_coats_225 : decode cX7_coats 225 = .ok (.imul, 1) := by decide +kernel
theorem dX7_coats_226 : decode cX7_coats 226 = .ok (.bipush 8, 2) := by decide +kernel
theorem dX7_coats_228 : decode cX7_coats 228 = .ok (.iadd, 1) := by decide +kernel
theorem dX7_coats_229 : decode cX7_coats 229 = .ok (.iload 4, 2) := by decide +kernel
theorem dX7_coats_231 : decode cX7_coats 231 = .ok (.iadd, 1) := by decide +kernel
theorem dX7_coats_232 : decode cX7_coats 232 = .ok (.aload_n 0, 1) := by decide +kernel
theorem dX7_coats_233 : decode cX7_coats 233 = .ok (.getfield 37, 3) := by decide +kernel
theorem dX7_coats_236 : decode cX7_coats 236 = .ok (.iload 4, 2) := by decide +kernel
theorem dX7_coats_238 : decode cX7_coats 238 = .ok (.iaload, 1) := by decide +kernel
theorem dX7_coats_239 : decode cX7_coats 239 = .ok (.iastore, 1) := by decide +kernel
theorem dX7_coats_240 : decode cX7_coats 240 = .ok (.iinc 4 1, 3) := by decide +kernel
theorem dX7_coats_243 : decode cX7_coats 243 = .ok (.goto (-33), 3) := by decide +kernel
theorem dX7_coats_246 : decode cX7_coats 246 = .ok (.iload_n 2, 1) := by decide +kernel
theorem dX7_coats_247 : decode cX7_coats 247 = .ok (.ireturn, 1) := by decide +kernel
theorem dX7_count_0 : decode cX7_count 0 = .ok (.iconst 0, 1) := by decide +kernel
theorem dX7_count_1 : decode cX7_count 1 = .ok (.istore_n 2, 1) := by decide +kernel
theorem dX7_count_2 : decode cX7_count 2 = .ok (.iconst 0, 1) := by decide +kernel
theorem dX7_count_3 : decode cX7_count 3 = .ok (.istore_n 3, 1) := by decide +kernel
theorem dX7_count_4 : decode cX7_count 4 = .ok (.iconst 0, 1) := by decide +kernel
theorem dX7_count_5 : decode cX7_count 5 = .ok (.istore 4, 2) := by decide +kernel
theorem dX7_count_7 : decode cX7_count 7 = .ok (.iload 4, 2) := by decide +kernel
theorem dX7_count_9 : decode cX7_count 9 = .ok (.aload_n 0, 1) := by decide +kernel
theorem dX7_count_10 : decode cX7_count 10 = .ok (.getfield 64, 3) := by decide +kernel
theorem dX7_count_13 : decode cX7_count 13 = .ok (.if_icmp .ge 42, 3) := by decide +kernel
theorem dX7_count_16 : decode cX7_count 16 = .ok (.iload_n 2, 1) := by decide +kernel
theorem dX7_count_17 : decode cX7_count 17 = .ok (.aload_n 0, 1) := by decide +kernel
theorem dX7_count_18 : decode cX7_count 18 = .ok (.getfield 7, 3) := by decide +kernel
theorem dX7_count_21 : decode cX7_count 21 = .ok (.bipush 40, 2) := by decide +kernel
theorem dX7_count_23 : decode cX7_count 23 = .ok (.iload 4, 2) := by decide +kernel
theorem dX7_count_25 : decode cX7_count 25 = .ok (.imul, 1) := by decide +kernel
theorem dX7_count_26 : decode cX7_count 26 = .ok (.iconst 3, 1) := by decide +kernel
theorem dX7_count_27 : decode cX7_count 27 = .ok (.iadd, 1) := by decide +kernel
theorem dX7_count_28 : decode cX7_count 28 = .ok (.iaload, 1) := by decide +kernel
theorem dX7_count_29 : decode cX7_count 29 = .ok (.iadd, 1) := by decide +kernel
theorem dX7_count_30 : decode cX7_count 30 = .ok (.istore_n 2, 1) := by decide +kernel
theorem dX7_count_31 : decode cX7_count 31 = .ok (.iload_n 3, 1) := by decide +kernel
theorem dX7_count_32 : decode cX7_count 32 = .ok (.aload_n 0, 1) := by decide +kernel
theorem dX7_count_33 : decode cX7_count 33 = .ok (.getfield 7, 3) := by decide +kernel
theorem dX7_count_36 : decode cX7_count 36 = .ok (.bipush 40, 2) := by decide +kernel
theorem dX7_count_38 : decode cX7_count 38 = .ok (.iload 4, 2) := by decide +kernel
theorem dX7_count_40 : decode cX7_count 40 = .ok (.imul, 1) := by decide +kernel
theorem dX7_count_41 : decode cX7_count 41 = .ok (.iconst 5, 1) := by decide +kernel
theorem dX7_count_42 : decode cX7_count 42 = .ok (.iadd, 1) := by decide +kernel
theorem dX7_count_43 : decode cX7_count 43 = .ok (.iaload, 1) := by decide +kernel
theorem dX7_count_44 : decode cX7_count 44 = .ok (.iload 4, 2) := by decide +kernel
theorem dX7_count_46 : decode cX7_count 46 = .ok (.ishl, 1) := by decide +kernel
theorem dX7_count_47 : decode cX7_count 47 = .ok (.ior, 1) := by decide +kernel
theorem dX7_count_48 : decode cX7_count 48 = .ok (.istore_n 3, 1) := by decide +kernel
theorem dX7_count_49 : decode cX7_count 49 = .ok (.iinc 4 1, 3) := by decide +kernel
theorem dX7_count_52 : decode cX7_count 52 = .ok (.goto (-45), 3) := by decide +kernel
theorem dX7_count_55 : decode cX7_count 55 = .ok (.iload_n 1, 1) := by decide +kernel
theorem dX7_count_56 : decode cX7_count 56 = .ok (.tableswitch 64 0 5 #[40, 45, 50, 52, 54, 59], 40) := by decide +kernel
theorem dX7_count_96 : decode cX7_count 96 = .ok (.aload_n 0, 1) := by decide +kernel
theorem dX7_count_97 : decode cX7_count 97 = .ok (.getfield 64, 3) := by decide +kernel
theorem dX7_count_100 : decode cX7_count 100 = .ok (.ireturn, 1) := by decide +kernel
theorem dX7_count_101 : decode cX7_count 101 = .ok (.aload_n 0, 1) := by decide +kernel
theorem dX7_count_102 : decode cX7_count 102 = .ok (.getfield 145, 3) := by decide +kernel
theorem dX7_count_105 : decode cX7_count 105 = .ok (.ireturn, 1) := by decide +kernel
theorem dX7_count_106 : decode cX7_count 106 = .ok (.iload_n 2, 1) := by decide +kernel
theorem dX7_count_107 : decode cX7_count 107 = .ok (.ireturn, 1) := by decide +kernel
theorem dX7_count_108 : decode cX7_count 108 = .ok (.iload_n 3, 1) := by decide +kernel
theorem dX7_count_109 : decode cX7_count 109 = .ok (.ireturn, 1) := by decide +kernel
theorem dX7_count_110 : decode cX7_count 110 = .ok (.aload_n 0, 1) := by decide +kernel
theorem dX7_count_111 : decode cX7_count 111 = .ok (.getfield 148, 3) := by decide +kernel
theorem dX7_count_114 : decode cX7_count 114 = .ok (.ireturn, 1) := by decide +kernel
theorem dX7_count_115 : decode cX7_count 115 = .ok (.aload_n 0, 1) := by decide +kernel
theorem dX7_count_116 : decode cX7_count 116 = .ok (.getfield 151, 3) := by decide +kernel
theorem dX7_count_119 : decode cX7_count 119 = .ok (.ireturn, 1) := by decide +kernel
theorem dX7_count_120 : decode cX7_count 120 = .ok (.iconst (-1), 1) := by decide +kernel
theorem dX7_count_121 : decode cX7_count 121 = .ok (.ireturn, 1) := by decide +kernel
theorem dX7_most_0 : decode cX7_most 0 = .ok (.iload_n 0, 1) := by decide +kernel
theorem dX7_most_1 : decode cX7_most 1 = .ok (.ldc 154, 2) := by decide +kernel
theorem dX7_most_3 : decode cX7_most 3 = .ok (.if_icmp .le 8, 3) := by decide +kernel
theorem dX7_most_6 : decode cX7_most 6 = .ok (.ldc 154, 2) := by decide +kernel
theorem dX7_most_8 : decode cX7_most 8 = .ok (.goto 4, 3) := by decide +kernel
theorem dX7_most_11 : decode cX7_most 11 = .ok (.iload_n 0, 1) := by decide +kernel
theorem dX7_most_12 : decode cX7_most 12 = .ok (.ireturn, 1) := by decide +kernel
theorem dX7_rests_0 : decode cX7_rests 0 = .ok (.bipush 40, 2) := by decide +kernel
theorem dX7_rests_2 : decode cX7_rests 2 = .ok (.iload_n 1, 1) := by decide +kernel
theorem dX7_rests_3 : decode cX7_rests 3 = .ok (.imul, 1) := by decide +kernel
theorem dX7_rests_4 : decode cX7_rests 4 = .ok (.istore_n 2, 1) := by decide +kernel
theorem dX7_rests_5 : decode cX7_rests 5 = .ok (.iconst 0, 1) := by decide +kernel
theorem dX7_rests_6 : decode cX7_rests 6 = .ok (.istore_n 3, 1) := by decide +kernel
theorem dX7_rests_7 : decode cX7_rests 7 = .ok (.iconst 0, 1) := by decide +kernel
theorem dX7_rests_8 : decode cX7_rests 8 = .ok (.istore 4, 2) := by decide +kernel
theorem dX7_rests_10 : decode cX7_rests 10 = .ok (.iload 4, 2) := by decide +kernel
theorem dX7_rests_12 : decode cX7_rests 12 = .ok (.aload_n 0, 1) := by decide +kernel
theorem dX7_rests_13 : decode cX7_rests 13 = .ok (.getfield 16, 3) := by decide +kernel
theorem dX7_rests_16 : decode cX7_rests 16 = .ok (.iload_n 2, 1) := by decide +kernel
theorem dX7_rests_17 : decode cX7_rests 17 = .ok (.iconst 3, 1) := by decide +kernel
theorem dX7_rests_18 : decode cX7_rests 18 = .ok (.iadd, 1) := by decide +kernel
theorem dX7_rests_19 : decode cX7_rests 19 = .ok (.iaload, 1) := by decide +kernel
theorem dX7_rests_20 : decode cX7_rests 20 = .ok (.if_icmp .ge 83, 3) := by decide +kernel
theorem dX7_rests_23 : decode cX7_rests 23 = .ok (.iload_n 2, 1) := by decide +kernel
theorem dX7_rests_24 : decode cX7_rests 24 = .ok (.bipush 8, 2) := by decide +kernel
theorem dX7_rests_26 : decode cX7_rests 26 = .ok (.iadd, 1) := by decide +kernel
theorem dX7_rests_27 : decode cX7_rests 27 = .ok (.iconst 4, 1) := by decide +kernel
theorem dX7_rests_28 : decode cX7_rests 28 = .ok (.iload 4, 2) := by decide +kernel
theorem dX7_rests_30 : decode cX7_rests 30 = .ok (.imul, 1) := by decide +kernel
theorem dX7_rests_31 : decode cX7_rests 31 = .ok (.iadd, 1) := by decide +kernel
theorem dX7_rests_32 : decode cX7_rests 32 = .ok (.istore 5, 2) := by decide +kernel
theorem dX7_rests_34 : decode cX7_rests 34 = .ok (.aload_n 0, 1) := by decide +kernel
theorem dX7_rests_35 : decode cX7_rests 35 = .ok (.getfield 16, 3) := by decide +kernel
theorem dX7_rests_38 : decode cX7_rests 38 = .ok (.iload 5, 2) := by decide +kernel
theorem dX7_rests_40 : decode cX7_rests 40 = .ok (.iconst 1, 1) := by decide +kernel
theorem dX7_rests_41 : decode cX7_rests 41 = .ok (.iadd, 1) := by decide +kernel
theorem dX7_rests_42 : decode cX7_rests 42 = .ok (.aload_n 0, 1) := by decide +kernel
theorem dX7_rests_43 : decode cX7_rests 43 = .ok (.getfield 16, 3) := by decide +kernel
theorem dX7_rests_46 : decode cX7_rests 46 = .ok (.iload 5, 2) := by decide +kernel
theorem dX7_rests_48 : decode cX7_rests 48 = .ok (.iconst 1, 1) := by decide +kernel
theorem dX7_rests_49 : decode cX7_rests 49 = .ok (.iadd, 1) := by decide +kernel
theorem dX7_rests_50 : decode cX7_rests 50 = .ok (.iaload, 1) := by decide +kernel
theorem dX7_rests_51 : decode cX7_rests 51 = .ok (.aload_n 0, 1) := by decide +kernel
theorem dX7_rests_52 : decode cX7_rests 52 = .ok (.getfield 16, 3) := by decide +kernel
theorem dX7_rests_55 : decode cX7_rests 55 = .ok (.iload 5, 2) := by decide +kernel
theorem dX7_rests_57 : decode cX7_rests 57 = .ok (.iconst 1, 1) := by decide +kernel
theorem dX7_rests_58 : decode cX7_rests 58 = .ok (.iadd, 1) := by decide +kernel
theorem dX7_rests_59 : decode cX7_rests 59 = .ok (.iaload, 1) := by decide +kernel
theorem dX7_rests_60 : decode cX7_rests 60 = .ok (.aload_n 0, 1) := by decide +kernel
theorem dX7_rests_61 : decode cX7_rests 61 = .ok (.getfield 16, 3) := by decide +kernel
theorem dX7_rests_64 : decode cX7_rests 64 = .ok (.iload 5, 2) := by decide +kernel
theorem dX7_rests_66 : decode cX7_rests 66 = .ok (.iconst 2, 1) := by decide +kernel
theorem dX7_rests_67 : decode cX7_rests 67 = .ok (.iadd, 1) := by decide +kernel
theorem dX7_rests_68 : decode cX7_rests 68 = .ok (.iaload, 1) := by decide +kernel
theorem dX7_rests_69 : decode cX7_rests 69 = .ok (.imul, 1) := by decide +kernel
theorem dX7_rests_70 : decode cX7_rests 70 = .ok (.bipush 100, 2) := by decide +kernel
theorem dX7_rests_72 : decode cX7_rests 72 = .ok (.idiv, 1) := by decide +kernel
theorem dX7_rests_73 : decode cX7_rests 73 = .ok (.iadd, 1) := by decide +kernel
theorem dX7_rests_74 : decode cX7_rests 74 = .ok (.invokestatic 155, 3) := by decide +kernel
theorem dX7_rests_77 : decode cX7_rests 77 = .ok (.iastore, 1) := by decide +kernel
theorem dX7_rests_78 : decode cX7_rests 78 = .ok (.iload_n 3, 1) := by decide +kernel
theorem dX7_rests_79 : decode cX7_rests 79 = .ok (.aload_n 0, 1) := by decide +kernel
theorem dX7_rests_80 : decode cX7_rests 80 = .ok (.getfield 19, 3) := by decide +kernel
theorem dX7_rests_83 : decode cX7_rests 83 = .ok (.iconst 5, 1) := by decide +kernel
theorem dX7_rests_84 : decode cX7_rests 84 = .ok (.iload_n 1, 1) := by decide +kernel
theorem dX7_rests_85 : decode cX7_rests 85 = .ok (.imul, 1) := by decide +kernel
theorem dX7_rests_86 : decode cX7_rests 86 = .ok (.aload_n 0, 1) := by decide +kernel
theorem dX7_rests_87 : decode cX7_rests 87 = .ok (.getfield 16, 3) := by decide +kernel
theorem dX7_rests_90 : decode cX7_rests 90 = .ok (.iload 5, 2) := by decide +kernel
theorem dX7_rests_92 : decode cX7_rests 92 = .ok (.iaload, 1) := by decide +kernel
theorem dX7_rests_93 : decode cX7_rests 93 = .ok (.iadd, 1) := by decide +kernel
theorem dX7_rests_94 : decode cX7_rests 94 = .ok (.iaload, 1) := by decide +kernel
theorem dX7_rests_95 : decode cX7_rests 95 = .ok (.iadd, 1) := by decide +kernel
theorem dX7_rests_96 : decode cX7_rests 96 = .ok (.istore_n 3, 1) := by decide +kernel
theorem dX7_rests_97 : decode cX7_rests 97 = .ok (.iinc 4 1, 3) := by decide +kernel
theorem dX7_rests_100 : decode cX7_rests 100 = .ok (.goto (-90), 3) := by decide +kernel
theorem dX7_rests_103 : decode cX7_rests 103 = .ok (.aload_n 0, 1) := by decide +kernel
theorem dX7_rests_104 : decode cX7_rests 104 = .ok (.getfield 16, 3) := by decide +kernel
theorem dX7_rests_107 : decode cX7_rests 107 = .ok (.iload_n 2, 1) := by decide +kernel
theorem dX7_rests_108 : decode cX7_rests 108 = .ok (.iaload, 1) := by decide +kernel
theorem dX7_rests_109 : decode cX7_rests 109 = .ok (.aload_n 0, 1) := by decide +kernel
theorem dX7_rests_110 : decode cX7_rests 110 = .ok (.getfield 16, 3) := by decide +kernel
theorem dX7_rests_113 : decode cX7_rests 113 = .ok (.iload_n 2, 1) := by decide +kernel
theorem dX7_rests_114 : decode cX7_rests 114 = .ok (.iconst 1, 1) := by decide +kernel
theorem dX7_rests_115 : decode cX7_rests 115 = .ok (.iadd, 1) := by decide +kernel
theorem dX7_rests_116 : decode cX7_rests 116 = .ok (.iaload, 1) := by decide +kernel
theorem dX7_rests_117 : decode cX7_rests 117 = .ok (.iadd, 1) := by decide +kernel
theorem dX7_rests_118 : decode cX7_rests 118 = .ok (.iload_n 3, 1) := by decide +kernel
theorem dX7_rests_119 : decode cX7_rests 119 = .ok (.isub, 1) := by decide +kernel
theorem dX7_rests_120 : decode cX7_rests 120 = .ok (.istore 4, 2) := by decide +kernel
theorem dX7_rests_122 : decode cX7_rests 122 = .ok (.aload_n 0, 1) := by decide +kernel
theorem dX7_rests_123 : decode cX7_rests 123 = .ok (.getfield 16, 3) := by decide +kernel
theorem dX7_rests_126 : decode cX7_rests 126 = .ok (.iload_n 2, 1) := by decide +kernel
theorem dX7_rests_127 : decode cX7_rests 127 = .ok (.iload 4, 2) := by decide +kernel
theorem dX7_rests_129 : decode cX7_rests 129 = .ok (.ifCond .ge 7, 3) := by decide +kernel
theorem dX7_rests_132 : decode cX7_rests 132 = .ok (.iconst 0, 1) := by decide +kernel
theorem dX7_rests_133 : decode cX7_rests 133 = .ok (.goto 8, 3) := by decide +kernel
theorem dX7_rests_136 : decode cX7_rests 136 = .ok (.iload 4, 2) := by decide +kernel
theorem dX7_rests_138 : decode cX7_rests 138 = .ok (.invokestatic 155, 3) := by decide +kernel
theorem dX7_rests_141 : decode cX7_rests 141 = .ok (.iastore, 1) := by decide +kernel
theorem dX7_rests_142 : decode cX7_rests 142 = .ok (.return_, 1) := by decide +kernel
theorem dX7_isTooHot_0 : decode cX7_isTooHot 0 = .ok (.aload_n 0, 1) := by decide +kernel
theorem dX7_isTooHot_1 : decode cX7_isTooHot 1 = .ok (.getfield 16, 3) := by decide +kernel
theorem dX7_isTooHot_4 : decode cX7_isTooHot 4 = .ok (.bipush 40, 2) := by decide +kernel
theorem dX7_isTooHot_6 : decode cX7_isTooHot 6 = .ok (.iload_n 1, 1) := by decide +kernel
theorem dX7_isTooHot_7 : decode cX7_isTooHot 7 = .ok (.imul, 1) := by decide +kernel
theorem dX7_isTooHot_8 : decode cX7_isTooHot 8 = .ok (.iconst 2, 1) := by decide +kernel
theorem dX7_isTooHot_9 : decode cX7_isTooHot 9 = .ok (.iadd, 1) := by decide +kernel
theorem dX7_isTooHot_10 : decode cX7_isTooHot 10 = .ok (.iaload, 1) := by decide +kernel
theorem dX7_isTooHot_11 : decode cX7_isTooHot 11 = .ok (.aload_n 0, 1) := by decide +kernel
theorem dX7_isTooHot_12 : decode cX7_isTooHot 12 = .ok (.getfield 22, 3) := by decide +kernel
theorem dX7_isTooHot_15 : decode cX7_isTooHot 15 = .ok (.iload_n 2, 1) := by decide +kernel
theorem dX7_isTooHot_16 : decode cX7_isTooHot 16 = .ok (.bipush 30, 2) := by decide +kernel
theorem dX7_isTooHot_18 : decode cX7_isTooHot 18 = .ok (.idiv, 1) := by decide +kernel
theorem dX7_isTooHot_19 : decode cX7_isTooHot 19 = .ok (.iaload, 1) := by decide +kernel
theorem dX7_isTooHot_20 : decode cX7_isTooHot 20 = .ok (.isub, 1) := by decide +kernel
theorem dX7_isTooHot_21 : decode cX7_isTooHot 21 = .ok (.istore_n 3, 1) := by decide +kernel
theorem dX7_isTooHot_22 : decode cX7_isTooHot 22 = .ok (.aload_n 0, 1) := by decide +kernel
theorem dX7_isTooHot_23 : decode cX7_isTooHot 23 = .ok (.iload_n 1, 1) := by decide +kernel
theorem dX7_isTooHot_24 : decode cX7_isTooHot 24 = .ok (.invokevirtual 86, 3) := by decide +kernel
theorem dX7_isTooHot_27 : decode cX7_isTooHot 27 = .ok (.iload_n 3, 1) := by decide +kernel
theorem dX7_isTooHot_28 : decode cX7_isTooHot 28 = .ok (.ifCond .ge 7, 3) := by decide +kernel
theorem dX7_isTooHot_31 : decode cX7_isTooHot 31 = .ok (.iconst 0, 1) := by decide +kernel
theorem dX7_isTooHot_32 : decode cX7_isTooHot 32 = .ok (.goto 4, 3) := by decide +kernel
theorem dX7_isTooHot_35 : decode cX7_isTooHot 35 = .ok (.iload_n 3, 1) := by decide +kernel
theorem dX7_isTooHot_36 : decode cX7_isTooHot 36 = .ok (.if_icmp .le 7, 3) := by decide +kernel
theorem dX7_isTooHot_39 : decode cX7_isTooHot 39 = .ok (.iconst 1, 1) := by decide +kernel
theorem dX7_isTooHot_40 : decode cX7_isTooHot 40 = .ok (.goto 4, 3) := by decide +kernel
theorem dX7_isTooHot_43 : decode cX7_isTooHot 43 = .ok (.iconst 0, 1) := by decide +kernel
theorem dX7_isTooHot_44 : decode cX7_isTooHot 44 = .ok (.ireturn, 1) := by decide +kernel
theorem dX7_sleeps_0 : decode cX7_sleeps 0 = .ok (.iconst 0, 1) := by decide +kernel
theorem dX7_sleeps_1 : decode cX7_sleeps 1 = .ok (.istore_n 2, 1) := by decide +kernel
theorem dX7_sleeps_2 : decode cX7_sleeps 2 = .ok (.iload_n 2, 1) := by decide +kernel
theorem dX7_sleeps_3 : decode cX7_sleeps 3 = .ok (.aload_n 0, 1) := by decide +kernel
theorem dX7_sleeps_4 : decode cX7_sleeps 4 = .ok (.getfield 64, 3) := by decide +kernel
theorem dX7_sleeps_7 : decode cX7_sleeps 7 = .ok (.if_icmp .ge 14, 3) := by decide +kernel
theorem dX7_sleeps_10 : decode cX7_sleeps 10 = .ok (.aload_n 0, 1) := by decide +kernel
theorem dX7_sleeps_11 : decode cX7_sleeps 11 = .ok (.iload_n 2, 1) := by decide +kernel
theorem dX7_sleeps_12 : decode cX7_sleeps 12 = .ok (.invokevirtual 158, 3) := by decide +kernel
theorem dX7_sleeps_15 : decode cX7_sleeps 15 = .ok (.iinc 2 1, 3) := by decide +kernel
theorem dX7_sleeps_18 : decode cX7_sleeps 18 = .ok (.goto (-16), 3) := by decide +kernel
theorem dX7_sleeps_21 : decode cX7_sleeps 21 = .ok (.iconst 0, 1) := by decide +kernel
theorem dX7_sleeps_22 : decode cX7_sleeps 22 = .ok (.istore_n 2, 1) := by decide +kernel
theorem dX7_sleeps_23 : decode cX7_sleeps 23 = .ok (.iload_n 2, 1) := by decide +kernel
theorem dX7_sleeps_24 : decode cX7_sleeps 24 = .ok (.aload_n 0, 1) := by decide +kernel
theorem dX7_sleeps_25 : decode cX7_sleeps 25 = .ok (.getfield 64, 3) := by decide +kernel
theorem dX7_sleeps_28 : decode cX7_sleeps 28 = .ok (.if_icmp .ge 80, 3) := by decide +kernel
theorem dX7_sleeps_31 : decode cX7_sleeps 31 = .ok (.aload_n 0, 1) := by decide +kernel
theorem dX7_sleeps_32 : decode cX7_sleeps 32 = .ok (.iload_n 2, 1) := by decide +kernel
theorem dX7_sleeps_33 : decode cX7_sleeps 33 = .ok (.iload_n 1, 1) := by decide +kernel
theorem dX7_sleeps_34 : decode cX7_sleeps 34 = .ok (.invokevirtual 162, 3) := by decide +kernel
theorem dX7_sleeps_37 : decode cX7_sleeps 37 = .ok (.ifCond .eq 65, 3) := by decide +kernel
theorem dX7_sleeps_40 : decode cX7_sleeps 40 = .ok (.aload_n 0, 1) := by decide +kernel
theorem dX7_sleeps_41 : decode cX7_sleeps 41 = .ok (.getfield 16, 3) := by decide +kernel
theorem dX7_sleeps_44 : decode cX7_sleeps 44 = .ok (.bipush 40, 2) := by decide +kernel
theorem dX7_sleeps_46 : decode cX7_sleeps 46 = .ok (.iload_n 2, 1) := by decide +kernel
theorem dX7_sleeps_47 : decode cX7_sleeps 47 = .ok (.imul, 1) := by decide +kernel
theorem dX7_sleeps_48 : decode cX7_sleeps 48 = .ok (.iconst 0, 1) := by decide +kernel
theorem dX7_sleeps_49 : decode cX7_sleeps 49 = .ok (.iastore, 1) := by decide +kernel
theorem dX7_sleeps_50 : decode cX7_sleeps 50 = .ok (.aload_n 0, 1) := by decide +kernel
theorem dX7_sleeps_51 : decode cX7_sleeps 51 = .ok (.getfield 16, 3) := by decide +kernel
theorem dX7_sleeps_54 : decode cX7_sleeps 54 = .ok (.bipush 40, 2) := by decide +kernel
theorem dX7_sleeps_56 : decode cX7_sleeps 56 = .ok (.iload_n 2, 1) := by decide +kernel
theorem dX7_sleeps_57 : decode cX7_sleeps 57 = .ok (.imul, 1) := by decide +kernel
theorem dX7_sleeps_58 : decode cX7_sleeps 58 = .ok (.iconst 5, 1) := by decide +kernel
theorem dX7_sleeps_59 : decode cX7_sleeps 59 = .ok (.iadd, 1) := by decide +kernel
theorem dX7_sleeps_60 : decode cX7_sleeps 60 = .ok (.iconst 1, 1) := by decide +kernel
theorem dX7_sleeps_61 : decode cX7_sleeps 61 = .ok (.iastore, 1) := by decide +kernel
theorem dX7_sleeps_62 : decode cX7_sleeps 62 = .ok (.aload_n 0, 1) := by decide +kernel
theorem dX7_sleeps_63 : decode cX7_sleeps 63 = .ok (.getfield 16, 3) := by decide +kernel
theorem dX7_sleeps_66 : decode cX7_sleeps 66 = .ok (.bipush 40, 2) := by decide +kernel
theorem dX7_sleeps_68 : decode cX7_sleeps 68 = .ok (.iload_n 2, 1) := by decide +kernel
theorem dX7_sleeps_69 : decode cX7_sleeps 69 = .ok (.imul, 1) := by decide +kernel
theorem dX7_sleeps_70 : decode cX7_sleeps 70 = .ok (.iconst 4, 1) := by decide +kernel
theorem dX7_sleeps_71 : decode cX7_sleeps 71 = .ok (.iadd, 1) := by decide +kernel
theorem dX7_sleeps_72 : decode cX7_sleeps 72 = .ok (.aload_n 0, 1) := by decide +kernel
theorem dX7_sleeps_73 : decode cX7_sleeps 73 = .ok (.getfield 16, 3) := by decide +kernel
theorem dX7_sleeps_76 : decode cX7_sleeps 76 = .ok (.bipush 40, 2) := by decide +kernel
theorem dX7_sleeps_78 : decode cX7_sleeps 78 = .ok (.iload_n 2, 1) := by decide +kernel
theorem dX7_sleeps_79 : decode cX7_sleeps 79 = .ok (.imul, 1) := by decide +kernel
theorem dX7_sleeps_80 : decode cX7_sleeps 80 = .ok (.iconst 4, 1) := by decide +kernel
theorem dX7_sleeps_81 : decode cX7_sleeps 81 = .ok (.iadd, 1) := by decide +kernel
theorem dX7_sleeps_82 : decode cX7_sleeps 82 = .ok (.iaload, 1) := by decide +kernel
theorem dX7_sleeps_83 : decode cX7_sleeps 83 = .ok (.ifCond .ge 7, 3) := by decide +kernel
theorem dX7_sleeps_86 : decode cX7_sleeps 86 = .ok (.iload_n 1, 1) := by decide +kernel
theorem dX7_sleeps_87 : decode cX7_sleeps 87 = .ok (.goto 14, 3) := by decide +kernel
theorem dX7_sleeps_90 : decode cX7_sleeps 90 = .ok (.aload_n 0, 1) := by decide +kernel
theorem dX7_sleeps_91 : decode cX7_sleeps 91 = .ok (.getfield 16, 3) := by decide +kernel
theorem dX7_sleeps_94 : decode cX7_sleeps 94 = .ok (.bipush 40, 2) := by decide +kernel
theorem dX7_sleeps_96 : decode cX7_sleeps 96 = .ok (.iload_n 2, 1) := by decide +kernel
theorem dX7_sleeps_97 : decode cX7_sleeps 97 = .ok (.imul, 1) := by decide +kernel
theorem dX7_sleeps_98 : decode cX7_sleeps 98 = .ok (.iconst 4, 1) := by decide +kernel
theorem dX7_sleeps_99 : decode cX7_sleeps 99 = .ok (.iadd, 1) := by decide +kernel
theorem dX7_sleeps_100 : decode cX7_sleeps 100 = .ok (.iaload, 1) := by decide +kernel
theorem dX7_sleeps_101 : decode cX7_sleeps 101 = .ok (.iastore, 1) := by decide +kernel
theorem dX7_sleeps_102 : decode cX7_sleeps 102 = .ok (.iinc 2 1, 3) := by decide +kernel
theorem dX7_sleeps_105 : decode cX7_sleeps 105 = .ok (.goto (-82), 3) := by decide +kernel
theorem dX7_sleeps_108 : decode cX7_sleeps 108 = .ok (.return_, 1) := by decide +kernel
theorem dX7_nights_0 : decode cX7_nights 0 = .ok (.iload_n 1, 1) := by decide +kernel
theorem dX7_nights_1 : decode cX7_nights 1 = .ok (.i2l, 1) := by decide +kernel
theorem dX7_nights_2 : decode cX7_nights 2 = .ok (.lconst 1, 1) := by decide +kernel
theorem dX7_nights_3 : decode cX7_nights 3 = .ok (.ldc2_w 78, 3) := by decide +kernel
theorem dX7_nights_6 : decode cX7_nights 6 = .ok (.invokestatic 68, 3) := by decide +kernel
theorem dX7_nights_9 : decode cX7_nights 9 = .ok (.ifCond .ne 5, 3) := by decide +kernel
theorem dX7_nights_12 : decode cX7_nights 12 = .ok (.iconst (-1), 1) := by decide +kernel
theorem dX7_nights_13 : decode cX7_nights 13 = .ok (.ireturn, 1) := by decide +kernel
theorem dX7_nights_14 : decode cX7_nights 14 = .ok (.aload_n 0, 1) := by decide +kernel
theorem dX7_nights_15 : decode cX7_nights 15 = .ok (.getfield 145, 3) := by decide +kernel
theorem dX7_nights_18 : decode cX7_nights 18 = .ok (.iload_n 1, 1) := by decide +kernel
theorem dX7_nights_19 : decode cX7_nights 19 = .ok (.iadd, 1) := by decide +kernel
theorem dX7_nights_20 : decode cX7_nights 20 = .ok (.sipush 359, 3) := by decide +kernel
theorem dX7_nights_23 : decode cX7_nights 23 = .ok (.if_icmp .le 6, 3) := by decide +kernel
theorem dX7_nights_26 : decode cX7_nights 26 = .ok (.bipush (-3), 2) := by decide +kernel
theorem dX7_nights_28 : decode cX7_nights 28 = .ok (.ireturn, 1) := by decide +kernel
theorem dX7_nights_29 : decode cX7_nights 29 = .ok (.aload_n 0, 1) := by decide +kernel
theorem dX7_nights_30 : decode cX7_nights 30 = .ok (.aload_n 0, 1) := by decide +kernel
theorem dX7_nights_31 : decode cX7_nights 31 = .ok (.getfield 7, 3) := by decide +kernel
theorem dX7_nights_34 : decode cX7_nights 34 = .ok (.putfield 16, 3) := by decide +kernel
theorem dX7_nights_37 : decode cX7_nights 37 = .ok (.iconst 0, 1) := by decide +kernel
theorem dX7_nights_38 : decode cX7_nights 38 = .ok (.istore_n 2, 1) := by decide +kernel
theorem dX7_nights_39 : decode cX7_nights 39 = .ok (.iload_n 2, 1) := by decide +kernel
theorem dX7_nights_40 : decode cX7_nights 40 = .ok (.iload_n 1, 1) := by decide +kernel
theorem dX7_nights_41 : decode cX7_nights 41 = .ok (.if_icmp .ge 27, 3) := by decide +kernel
theorem dX7_nights_44 : decode cX7_nights 44 = .ok (.aload_n 0, 1) := by decide +kernel
theorem dX7_nights_45 : decode cX7_nights 45 = .ok (.dup, 1) := by decide +kernel
theorem dX7_nights_46 : decode cX7_nights 46 = .ok (.getfield 145, 3) := by decide +kernel
theorem dX7_nights_49 : decode cX7_nights 49 = .ok (.iconst 1, 1) := by decide +kernel
theorem dX7_nights_50 : decode cX7_nights 50 = .ok (.iadd, 1) := by decide +kernel
theorem dX7_nights_51 : decode cX7_nights 51 = .ok (.putfield 145, 3) := by decide +kernel
theorem dX7_nights_54 : decode cX7_nights 54 = .ok (.aload_n 0, 1) := by decide +kernel
theorem dX7_nights_55 : decode cX7_nights 55 = .ok (.aload_n 0, 1) := by decide +kernel
theorem dX7_nights_56 : decode cX7_nights 56 = .ok (.getfield 145, 3) := by decide +kernel
theorem dX7_nights_59 : decode cX7_nights 59 = .ok (.invokevirtual 165, 3) := by decide +kernel
theorem dX7_nights_62 : decode cX7_nights 62 = .ok (.iinc 2 1, 3) := by decide +kernel
theorem dX7_nights_65 : decode cX7_nights 65 = .ok (.goto (-26), 3) := by decide +kernel
theorem dX7_nights_68 : decode cX7_nights 68 = .ok (.aload_n 0, 1) := by decide +kernel
theorem dX7_nights_69 : decode cX7_nights 69 = .ok (.getfield 145, 3) := by decide +kernel
theorem dX7_nights_72 : decode cX7_nights 72 = .ok (.ireturn, 1) := by decide +kernel
theorem dX7_take_0 : decode cX7_take 0 = .ok (.aload_n 0, 1) := by decide +kernel
theorem dX7_take_1 : decode cX7_take 1 = .ok (.iload_n 1, 1) := by decide +kernel
theorem dX7_take_2 : decode cX7_take 2 = .ok (.invokevirtual 80, 3) := by decide +kernel
theorem dX7_take_5 : decode cX7_take 5 = .ok (.ifCond .eq 48, 3) := by decide +kernel
theorem dX7_take_8 : decode cX7_take 8 = .ok (.iload_n 2, 1) := by decide +kernel
theorem dX7_take_9 : decode cX7_take 9 = .ok (.invokestatic 97, 3) := by decide +kernel
theorem dX7_take_12 : decode cX7_take 12 = .ok (.ifCond .eq 41, 3) := by decide +kernel
theorem dX7_take_15 : decode cX7_take 15 = .ok (.iload_n 3, 1) := by decide +kernel
theorem dX7_take_16 : decode cX7_take 16 = .ok (.i2l, 1) := by decide +kernel
theorem dX7_take_17 : decode cX7_take 17 = .ok (.lconst 1, 1) := by decide +kernel
theorem dX7_take_18 : decode cX7_take 18 = .ok (.ldc2_w 74, 3) := by decide +kernel
theorem dX7_take_21 : decode cX7_take 21 = .ok (.invokestatic 68, 3) := by decide +kernel
theorem dX7_take_24 : decode cX7_take 24 = .ok (.ifCond .eq 29, 3) := by decide +kernel
theorem dX7_take_27 : decode cX7_take 27 = .ok (.iload 4, 2) := by decide +kernel
theorem dX7_take_29 : decode cX7_take 29 = .ok (.i2l, 1) := by decide +kernel
theorem dX7_take_30 : decode cX7_take 30 = .ok (.lconst 0, 1) := by decide +kernel
theorem dX7_take_31 : decode cX7_take 31 = .ok (.ldc2_w 168, 3) := by decide +kernel
theorem dX7_take_34 : decode cX7_take 34 = .ok (.invokestatic 68, 3) := by decide +kernel
theorem dX7_take_37 : decode cX7_take 37 = .ok (.ifCond .eq 16, 3) := by decide +kernel
theorem dX7_take_40 : decode cX7_take 40 = .ok (.iload 5, 2) := by decide +kernel
theorem dX7_take_42 : decode cX7_take 42 = .ok (.i2l, 1) := by decide +kernel
theorem dX7_take_43 : decode cX7_take 43 = .ok (.lconst 1, 1) := by decide +kernel
theorem dX7_take_44 : decode cX7_take 44 = .ok (.ldc2_w 100, 3) := by decide +kernel
theorem dX7_take_47 : decode cX7_take 47 = .ok (.invokestatic 68, 3) := by decide +kernel
theorem dX7_take_50 : decode cX7_take 50 = .ok (.ifCond .ne 5, 3) := by decide +kernel
theorem dX7_take_53 : decode cX7_take 53 = .ok (.iconst (-1), 1) := by decide +kernel
theorem dX7_take_54 : decode cX7_take 54 = .ok (.ireturn, 1) := by decide +kernel
theorem dX7_take_55 : decode cX7_take 55 = .ok (.bipush 40, 2) := by decide +kernel
theorem dX7_take_57 : decode cX7_take 57 = .ok (.iload_n 1, 1) := by decide +kernel
theorem dX7_take_58 : decode cX7_take 58 = .ok (.imul, 1) := by decide +kernel
theorem dX7_take_59 : decode cX7_take 59 = .ok (.istore 6, 2) := by decide +kernel
theorem dX7_take_61 : decode cX7_take 61 = .ok (.aload_n 0, 1) := by decide +kernel
theorem dX7_take_62 : decode cX7_take 62 = .ok (.getfield 7, 3) := by decide +kernel
theorem dX7_take_65 : decode cX7_take 65 = .ok (.iload 6, 2) := by decide +kernel
theorem dX7_take_67 : decode cX7_take 67 = .ok (.iconst 3, 1) := by decide +kernel
theorem dX7_take_68 : decode cX7_take 68 = .ok (.iadd, 1) := by decide +kernel
theorem dX7_take_69 : decode cX7_take 69 = .ok (.iaload, 1) := by decide +kernel
theorem dX7_take_70 : decode cX7_take 70 = .ok (.istore 7, 2) := by decide +kernel
theorem dX7_take_72 : decode cX7_take 72 = .ok (.iload 7, 2) := by decide +kernel
theorem dX7_take_74 : decode cX7_take 74 = .ok (.bipush 8, 2) := by decide +kernel
theorem dX7_take_76 : decode cX7_take 76 = .ok (.if_icmp .ne 6, 3) := by decide +kernel
theorem dX7_take_79 : decode cX7_take 79 = .ok (.bipush (-3), 2) := by decide +kernel
theorem dX7_take_81 : decode cX7_take 81 = .ok (.ireturn, 1) := by decide +kernel
theorem dX7_take_82 : decode cX7_take 82 = .ok (.aload_n 0, 1) := by decide +kernel
theorem dX7_take_83 : decode cX7_take 83 = .ok (.getfield 7, 3) := by decide +kernel
theorem dX7_take_86 : decode cX7_take 86 = .ok (.iload 6, 2) := by decide +kernel
theorem dX7_take_88 : decode cX7_take 88 = .ok (.bipush 8, 2) := by decide +kernel
theorem dX7_take_90 : decode cX7_take 90 = .ok (.iadd, 1) := by decide +kernel
theorem dX7_take_91 : decode cX7_take 91 = .ok (.iconst 4, 1) := by decide +kernel
theorem dX7_take_92 : decode cX7_take 92 = .ok (.iload 7, 2) := by decide +kernel
theorem dX7_take_94 : decode cX7_take 94 = .ok (.imul, 1) := by decide +kernel
theorem dX7_take_95 : decode cX7_take 95 = .ok (.iadd, 1) := by decide +kernel
theorem dX7_take_96 : decode cX7_take 96 = .ok (.iload_n 2, 1) := by decide +kernel
theorem dX7_take_97 : decode cX7_take 97 = .ok (.iastore, 1) := by decide +kernel
theorem dX7_take_98 : decode cX7_take 98 = .ok (.aload_n 0, 1) := by decide +kernel
theorem dX7_take_99 : decode cX7_take 99 = .ok (.getfield 7, 3) := by decide +kernel
theorem dX7_take_102 : decode cX7_take 102 = .ok (.iload 6, 2) := by decide +kernel
theorem dX7_take_104 : decode cX7_take 104 = .ok (.bipush 8, 2) := by decide +kernel
theorem dX7_take_106 : decode cX7_take 106 = .ok (.iadd, 1) := by decide +kernel
theorem dX7_take_107 : decode cX7_take 107 = .ok (.iconst 4, 1) := by decide +kernel
theorem dX7_take_108 : decode cX7_take 108 = .ok (.iload 7, 2) := by decide +kernel
theorem dX7_take_110 : decode cX7_take 110 = .ok (.imul, 1) := by decide +kernel
theorem dX7_take_111 : decode cX7_take 111 = .ok (.iadd, 1) := by decide +kernel
theorem dX7_take_112 : decode cX7_take 112 = .ok (.iconst 1, 1) := by decide +kernel
theorem dX7_take_113 : decode cX7_take 113 = .ok (.iadd, 1) := by decide +kernel
theorem dX7_take_114 : decode cX7_take 114 = .ok (.iload_n 3, 1) := by decide +kernel
theorem dX7_take_115 : decode cX7_take 115 = .ok (.iastore, 1) := by decide +kernel
theorem dX7_take_116 : decode cX7_take 116 = .ok (.aload_n 0, 1) := by decide +kernel
theorem dX7_take_117 : decode cX7_take 117 = .ok (.getfield 7, 3) := by decide +kernel
theorem dX7_take_120 : decode cX7_take 120 = .ok (.iload 6, 2) := by decide +kernel
theorem dX7_take_122 : decode cX7_take 122 = .ok (.bipush 8, 2) := by decide +kernel
theorem dX7_take_124 : decode cX7_take 124 = .ok (.iadd, 1) := by decide +kernel
theorem dX7_take_125 : decode cX7_take 125 = .ok (.iconst 4, 1) := by decide +kernel
theorem dX7_take_126 : decode cX7_take 126 = .ok (.iload 7, 2) := by decide +kernel
theorem dX7_take_128 : decode cX7_take 128 = .ok (.imul, 1) := by decide +kernel
theorem dX7_take_129 : decode cX7_take 129 = .ok (.iadd, 1) := by decide +kernel
theorem dX7_take_130 : decode cX7_take 130 = .ok (.iconst 2, 1) := by decide +kernel
theorem dX7_take_131 : decode cX7_take 131 = .ok (.iadd, 1) := by decide +kernel
theorem dX7_take_132 : decode cX7_take 132 = .ok (.iload 4, 2) := by decide +kernel
theorem dX7_take_134 : decode cX7_take 134 = .ok (.iastore, 1) := by decide +kernel
theorem dX7_take_135 : decode cX7_take 135 = .ok (.aload_n 0, 1) := by decide +kernel
theorem dX7_take_136 : decode cX7_take 136 = .ok (.getfield 7, 3) := by decide +kernel
theorem dX7_take_139 : decode cX7_take 139 = .ok (.iload 6, 2) := by decide +kernel
theorem dX7_take_141 : decode cX7_take 141 = .ok (.bipush 8, 2) := by decide +kernel
theorem dX7_take_143 : decode cX7_take 143 = .ok (.iadd, 1) := by decide +kernel
theorem dX7_take_144 : decode cX7_take 144 = .ok (.iconst 4, 1) := by decide +kernel
theorem dX7_take_145 : decode cX7_take 145 = .ok (.iload 7, 2) := by decide +kernel
theorem dX7_take_147 : decode cX7_take 147 = .ok (.imul, 1) := by decide +kernel
theorem dX7_take_148 : decode cX7_take 148 = .ok (.iadd, 1) := by decide +kernel
theorem dX7_take_149 : decode cX7_take 149 = .ok (.iconst 3, 1) := by decide +kernel
theorem dX7_take_150 : decode cX7_take 150 = .ok (.iadd, 1) := by decide +kernel
theorem dX7_take_151 : decode cX7_take 151 = .ok (.iload 5, 2) := by decide +kernel
theorem dX7_take_153 : decode cX7_take 153 = .ok (.iastore, 1) := by decide +kernel
theorem dX7_take_154 : decode cX7_take 154 = .ok (.aload_n 0, 1) := by decide +kernel
theorem dX7_take_155 : decode cX7_take 155 = .ok (.getfield 7, 3) := by decide +kernel
theorem dX7_take_158 : decode cX7_take 158 = .ok (.iload 6, 2) := by decide +kernel
theorem dX7_take_160 : decode cX7_take 160 = .ok (.aload_n 0, 1) := by decide +kernel
theorem dX7_take_161 : decode cX7_take 161 = .ok (.getfield 7, 3) := by decide +kernel
theorem dX7_take_164 : decode cX7_take 164 = .ok (.iload 6, 2) := by decide +kernel
theorem dX7_take_166 : decode cX7_take 166 = .ok (.iaload, 1) := by decide +kernel
theorem dX7_take_167 : decode cX7_take 167 = .ok (.iload_n 3, 1) := by decide +kernel
theorem dX7_take_168 : decode cX7_take 168 = .ok (.iadd, 1) := by decide +kernel
theorem dX7_take_169 : decode cX7_take 169 = .ok (.invokestatic 155, 3) := by decide +kernel
theorem dX7_take_172 : decode cX7_take 172 = .ok (.iastore, 1) := by decide +kernel
theorem dX7_take_173 : decode cX7_take 173 = .ok (.aload_n 0, 1) := by decide +kernel
theorem dX7_take_174 : decode cX7_take 174 = .ok (.getfield 7, 3) := by decide +kernel
theorem dX7_take_177 : decode cX7_take 177 = .ok (.iload 6, 2) := by decide +kernel
theorem dX7_take_179 : decode cX7_take 179 = .ok (.iconst 3, 1) := by decide +kernel
theorem dX7_take_180 : decode cX7_take 180 = .ok (.iadd, 1) := by decide +kernel
theorem dX7_take_181 : decode cX7_take 181 = .ok (.dup2, 1) := by decide +kernel
theorem dX7_take_182 : decode cX7_take 182 = .ok (.iaload, 1) := by decide +kernel
theorem dX7_take_183 : decode cX7_take 183 = .ok (.iconst 1, 1) := by decide +kernel
theorem dX7_take_184 : decode cX7_take 184 = .ok (.iadd, 1) := by decide +kernel
theorem dX7_take_185 : decode cX7_take 185 = .ok (.iastore, 1) := by decide +kernel
theorem dX7_take_186 : decode cX7_take 186 = .ok (.iload 7, 2) := by decide +kernel
theorem dX7_take_188 : decode cX7_take 188 = .ok (.iconst 1, 1) := by decide +kernel
theorem dX7_take_189 : decode cX7_take 189 = .ok (.iadd, 1) := by decide +kernel
theorem dX7_take_190 : decode cX7_take 190 = .ok (.ireturn, 1) := by decide +kernel
theorem dX7_mayOff_0 : decode cX7_mayOff 0 = .ok (.aload_n 0, 1) := by decide +kernel
theorem dX7_mayOff_1 : decode cX7_mayOff 1 = .ok (.getfield 25, 3) := by decide +kernel
theorem dX7_mayOff_4 : decode cX7_mayOff 4 = .ok (.iconst 0, 1) := by decide +kernel
theorem dX7_mayOff_5 : decode cX7_mayOff 5 = .ok (.iaload, 1) := by decide +kernel
theorem dX7_mayOff_6 : decode cX7_mayOff 6 = .ok (.ifCond .ne 18, 3) := by decide +kernel
theorem dX7_mayOff_9 : decode cX7_mayOff 9 = .ok (.iload_n 1, 1) := by decide +kernel
theorem dX7_mayOff_10 : decode cX7_mayOff 10 = .ok (.iload_n 2, 1) := by decide +kernel
theorem dX7_mayOff_11 : decode cX7_mayOff 11 = .ok (.iconst 1, 1) := by decide +kernel
theorem dX7_mayOff_12 : decode cX7_mayOff 12 = .ok (.isub, 1) := by decide +kernel
theorem dX7_mayOff_13 : decode cX7_mayOff 13 = .ok (.if_icmp .ne 7, 3) := by decide +kernel
theorem dX7_mayOff_16 : decode cX7_mayOff 16 = .ok (.iconst 1, 1) := by decide +kernel
theorem dX7_mayOff_17 : decode cX7_mayOff 17 = .ok (.goto 43, 3) := by decide +kernel
theorem dX7_mayOff_20 : decode cX7_mayOff 20 = .ok (.iconst 0, 1) := by decide +kernel
theorem dX7_mayOff_21 : decode cX7_mayOff 21 = .ok (.goto 39, 3) := by decide +kernel
theorem dX7_mayOff_24 : decode cX7_mayOff 24 = .ok (.aload_n 0, 1) := by decide +kernel
theorem dX7_mayOff_25 : decode cX7_mayOff 25 = .ok (.getfield 25, 3) := by decide +kernel
theorem dX7_mayOff_28 : decode cX7_mayOff 28 = .ok (.iconst 0, 1) := by decide +kernel
theorem dX7_mayOff_29 : decode cX7_mayOff 29 = .ok (.iaload, 1) := by decide +kernel
theorem dX7_mayOff_30 : decode cX7_mayOff 30 = .ok (.iconst 1, 1) := by decide +kernel
theorem dX7_mayOff_31 : decode cX7_mayOff 31 = .ok (.if_icmp .ne 15, 3) := by decide +kernel
theorem dX7_mayOff_34 : decode cX7_mayOff 34 = .ok (.iload_n 1, 1) := by decide +kernel
theorem dX7_mayOff_35 : decode cX7_mayOff 35 = .ok (.ifCond .ne 7, 3) := by decide +kernel
theorem dX7_mayOff_38 : decode cX7_mayOff 38 = .ok (.iconst 1, 1) := by decide +kernel
theorem dX7_mayOff_39 : decode cX7_mayOff 39 = .ok (.goto 21, 3) := by decide +kernel
theorem dX7_mayOff_42 : decode cX7_mayOff 42 = .ok (.iconst 0, 1) := by decide +kernel
theorem dX7_mayOff_43 : decode cX7_mayOff 43 = .ok (.goto 17, 3) := by decide +kernel
theorem dX7_mayOff_46 : decode cX7_mayOff 46 = .ok (.iload_n 1, 1) := by decide +kernel
theorem dX7_mayOff_47 : decode cX7_mayOff 47 = .ok (.ifCond .gt 8, 3) := by decide +kernel
theorem dX7_mayOff_50 : decode cX7_mayOff 50 = .ok (.iload_n 2, 1) := by decide +kernel
theorem dX7_mayOff_51 : decode cX7_mayOff 51 = .ok (.iconst 1, 1) := by decide +kernel
theorem dX7_mayOff_52 : decode cX7_mayOff 52 = .ok (.if_icmp .ne 7, 3) := by decide +kernel
theorem dX7_mayOff_55 : decode cX7_mayOff 55 = .ok (.iconst 1, 1) := by decide +kernel
theorem dX7_mayOff_56 : decode cX7_mayOff 56 = .ok (.goto 4, 3) := by decide +kernel
theorem dX7_mayOff_59 : decode cX7_mayOff 59 = .ok (.iconst 0, 1) := by decide +kernel
theorem dX7_mayOff_60 : decode cX7_mayOff 60 = .ok (.ireturn, 1) := by decide +kernel
theorem dX7_off_0 : decode cX7_off 0 = .ok (.bipush 40, 2) := by decide +kernel
theorem dX7_off_2 : decode cX7_off 2 = .ok (.iload_n 1, 1) := by decide +kernel
theorem dX7_off_3 : decode cX7_off 3 = .ok (.imul, 1) := by decide +kernel
theorem dX7_off_4 : decode cX7_off 4 = .ok (.istore_n 3, 1) := by decide +kernel
theorem dX7_off_5 : decode cX7_off 5 = .ok (.aload_n 0, 1) := by decide +kernel
theorem dX7_off_6 : decode cX7_off 6 = .ok (.getfield 16, 3) := by decide +kernel
theorem dX7_off_9 : decode cX7_off 9 = .ok (.iload_n 3, 1) := by decide +kernel
theorem dX7_off_10 : decode cX7_off 10 = .ok (.iconst 3, 1) := by decide +kernel
theorem dX7_off_11 : decode cX7_off 11 = .ok (.iadd, 1) := by decide +kernel
theorem dX7_off_12 : decode cX7_off 12 = .ok (.dup2, 1) := by decide +kernel
theorem dX7_off_13 : decode cX7_off 13 = .ok (.iaload, 1) := by decide +kernel
theorem dX7_off_14 : decode cX7_off 14 = .ok (.iconst 1, 1) := by decide +kernel
theorem dX7_off_15 : decode cX7_off 15 = .ok (.isub, 1) := by decide +kernel
theorem dX7_off_16 : decode cX7_off 16 = .ok (.iastore, 1) := by decide +kernel
theorem dX7_off_17 : decode cX7_off 17 = .ok (.iconst 4, 1) := by decide +kernel
theorem dX7_off_18 : decode cX7_off 18 = .ok (.iload_n 2, 1) := by decide +kernel
theorem dX7_off_19 : decode cX7_off 19 = .ok (.imul, 1) := by decide +kernel
theorem dX7_off_20 : decode cX7_off 20 = .ok (.istore 4, 2) := by decide +kernel
theorem dX7_off_22 : decode cX7_off 22 = .ok (.iload 4, 2) := by decide +kernel
theorem dX7_off_24 : decode cX7_off 24 = .ok (.iconst 4, 1) := by decide +kernel
theorem dX7_off_25 : decode cX7_off 25 = .ok (.aload_n 0, 1) := by decide +kernel
theorem dX7_off_26 : decode cX7_off 26 = .ok (.getfield 16, 3) := by decide +kernel
theorem dX7_off_29 : decode cX7_off 29 = .ok (.iload_n 3, 1) := by decide +kernel
theorem dX7_off_30 : decode cX7_off 30 = .ok (.iconst 3, 1) := by decide +kernel
theorem dX7_off_31 : decode cX7_off 31 = .ok (.iadd, 1) := by decide +kernel
theorem dX7_off_32 : decode cX7_off 32 = .ok (.iaload, 1) := by decide +kernel
theorem dX7_off_33 : decode cX7_off 33 = .ok (.imul, 1) := by decide +kernel
theorem dX7_off_34 : decode cX7_off 34 = .ok (.if_icmp .ge 33, 3) := by decide +kernel
theorem dX7_off_37 : decode cX7_off 37 = .ok (.aload_n 0, 1) := by decide +kernel
theorem dX7_off_38 : decode cX7_off 38 = .ok (.getfield 16, 3) := by decide +kernel
theorem dX7_off_41 : decode cX7_off 41 = .ok (.iload_n 3, 1) := by decide +kernel
theorem dX7_off_42 : decode cX7_off 42 = .ok (.bipush 8, 2) := by decide +kernel
theorem dX7_off_44 : decode cX7_off 44 = .ok (.iadd, 1) := by decide +kernel
theorem dX7_off_45 : decode cX7_off 45 = .ok (.iload 4, 2) := by decide +kernel
theorem dX7_off_47 : decode cX7_off 47 = .ok (.iadd, 1) := by decide +kernel
theorem dX7_off_48 : decode cX7_off 48 = .ok (.aload_n 0, 1) := by decide +kernel
theorem dX7_off_49 : decode cX7_off 49 = .ok (.getfield 16, 3) := by decide +kernel
theorem dX7_off_52 : decode cX7_off 52 = .ok (.iload_n 3, 1) := by decide +kernel
theorem dX7_off_53 : decode cX7_off 53 = .ok (.bipush 12, 2) := by decide +kernel
theorem dX7_off_55 : decode cX7_off 55 = .ok (.iadd, 1) := by decide +kernel
theorem dX7_off_56 : decode cX7_off 56 = .ok (.iload 4, 2) := by decide +kernel
theorem dX7_off_58 : decode cX7_off 58 = .ok (.iadd, 1) := by decide +kernel
theorem dX7_off_59 : decode cX7_off 59 = .ok (.iaload, 1) := by decide +kernel
theorem dX7_off_60 : decode cX7_off 60 = .ok (.iastore, 1) := by decide +kernel
theorem dX7_off_61 : decode cX7_off 61 = .ok (.iinc 4 1, 3) := by decide +kernel
theorem dX7_off_64 : decode cX7_off 64 = .ok (.goto (-42), 3) := by decide +kernel
theorem dX7_off_67 : decode cX7_off 67 = .ok (.return_, 1) := by decide +kernel
theorem dX7_pay_0 : decode cX7_pay 0 = .ok (.aload_n 0, 1) := by decide +kernel
theorem dX7_pay_1 : decode cX7_pay 1 = .ok (.iload_n 1, 1) := by decide +kernel
theorem dX7_pay_2 : decode cX7_pay 2 = .ok (.iload_n 2, 1) := by decide +kernel
theorem dX7_pay_3 : decode cX7_pay 3 = .ok (.invokevirtual 91, 3) := by decide +kernel
theorem dX7_pay_6 : decode cX7_pay 6 = .ok (.ifCond .ne 5, 3) := by decide +kernel
theorem dX7_pay_9 : decode cX7_pay 9 = .ok (.iconst (-1), 1) := by decide +kernel
theorem dX7_pay_10 : decode cX7_pay 10 = .ok (.ireturn, 1) := by decide +kernel
theorem dX7_pay_11 : decode cX7_pay 11 = .ok (.bipush 40, 2) := by decide +kernel
theorem dX7_pay_13 : decode cX7_pay 13 = .ok (.iload_n 1, 1) := by decide +kernel
theorem dX7_pay_14 : decode cX7_pay 14 = .ok (.imul, 1) := by decide +kernel
theorem dX7_pay_15 : decode cX7_pay 15 = .ok (.istore_n 3, 1) := by decide +kernel
theorem dX7_pay_16 : decode cX7_pay 16 = .ok (.aload_n 0, 1) := by decide +kernel
theorem dX7_pay_17 : decode cX7_pay 17 = .ok (.iload_n 2, 1) := by decide +kernel
theorem dX7_pay_18 : decode cX7_pay 18 = .ok (.aload_n 0, 1) := by decide +kernel
theorem dX7_pay_19 : decode cX7_pay 19 = .ok (.getfield 7, 3) := by decide +kernel
theorem dX7_pay_22 : decode cX7_pay 22 = .ok (.iload_n 3, 1) := by decide +kernel
theorem dX7_pay_23 : decode cX7_pay 23 = .ok (.iconst 3, 1) := by decide +kernel
theorem dX7_pay_24 : decode cX7_pay 24 = .ok (.iadd, 1) := by decide +kernel
theorem dX7_pay_25 : decode cX7_pay 25 = .ok (.iaload, 1) := by decide +kernel
theorem dX7_pay_26 : decode cX7_pay 26 = .ok (.invokevirtual 170, 3) := by decide +kernel
theorem dX7_pay_29 : decode cX7_pay 29 = .ok (.ifCond .ne 6, 3) := by decide +kernel
theorem dX7_pay_32 : decode cX7_pay 32 = .ok (.bipush (-2), 2) := by decide +kernel
theorem dX7_pay_34 : decode cX7_pay 34 = .ok (.ireturn, 1) := by decide +kernel
theorem dX7_pay_35 : decode cX7_pay 35 = .ok (.aload_n 0, 1) := by decide +kernel
theorem dX7_pay_36 : decode cX7_pay 36 = .ok (.getfield 7, 3) := by decide +kernel
theorem dX7_pay_39 : decode cX7_pay 39 = .ok (.iload_n 3, 1) := by decide +kernel
theorem dX7_pay_40 : decode cX7_pay 40 = .ok (.bipush 8, 2) := by decide +kernel
theorem dX7_pay_42 : decode cX7_pay 42 = .ok (.iadd, 1) := by decide +kernel
theorem dX7_pay_43 : decode cX7_pay 43 = .ok (.iconst 4, 1) := by decide +kernel
theorem dX7_pay_44 : decode cX7_pay 44 = .ok (.iload_n 2, 1) := by decide +kernel
theorem dX7_pay_45 : decode cX7_pay 45 = .ok (.imul, 1) := by decide +kernel
theorem dX7_pay_46 : decode cX7_pay 46 = .ok (.iadd, 1) := by decide +kernel
theorem dX7_pay_47 : decode cX7_pay 47 = .ok (.iconst 1, 1) := by decide +kernel
theorem dX7_pay_48 : decode cX7_pay 48 = .ok (.iadd, 1) := by decide +kernel
theorem dX7_pay_49 : decode cX7_pay 49 = .ok (.iaload, 1) := by decide +kernel
theorem dX7_pay_50 : decode cX7_pay 50 = .ok (.istore 4, 2) := by decide +kernel
theorem dX7_pay_52 : decode cX7_pay 52 = .ok (.aload_n 0, 1) := by decide +kernel
theorem dX7_pay_53 : decode cX7_pay 53 = .ok (.getfield 7, 3) := by decide +kernel
theorem dX7_pay_56 : decode cX7_pay 56 = .ok (.iload_n 3, 1) := by decide +kernel
theorem dX7_pay_57 : decode cX7_pay 57 = .ok (.iaload, 1) := by decide +kernel
theorem dX7_pay_58 : decode cX7_pay 58 = .ok (.iload 4, 2) := by decide +kernel
theorem dX7_pay_60 : decode cX7_pay 60 = .ok (.if_icmp .ge 6, 3) := by decide +kernel
theorem dX7_pay_63 : decode cX7_pay 63 = .ok (.bipush (-4), 2) := by decide +kernel
theorem dX7_pay_65 : decode cX7_pay 65 = .ok (.ireturn, 1) := by decide +kernel
theorem dX7_pay_66 : decode cX7_pay 66 = .ok (.aload_n 0, 1) := by decide +kernel
theorem dX7_pay_67 : decode cX7_pay 67 = .ok (.aload_n 0, 1) := by decide +kernel
theorem dX7_pay_68 : decode cX7_pay 68 = .ok (.getfield 7, 3) := by decide +kernel
theorem dX7_pay_71 : decode cX7_pay 71 = .ok (.putfield 16, 3) := by decide +kernel
theorem dX7_pay_74 : decode cX7_pay 74 = .ok (.aload_n 0, 1) := by decide +kernel
theorem dX7_pay_75 : decode cX7_pay 75 = .ok (.getfield 7, 3) := by decide +kernel
theorem dX7_pay_78 : decode cX7_pay 78 = .ok (.iload_n 3, 1) := by decide +kernel
theorem dX7_pay_79 : decode cX7_pay 79 = .ok (.dup2, 1) := by decide +kernel
theorem dX7_pay_80 : decode cX7_pay 80 = .ok (.iaload, 1) := by decide +kernel
theorem dX7_pay_81 : decode cX7_pay 81 = .ok (.iload 4, 2) := by decide +kernel
theorem dX7_pay_83 : decode cX7_pay 83 = .ok (.isub, 1) := by decide +kernel
theorem dX7_pay_84 : decode cX7_pay 84 = .ok (.iastore, 1) := by decide +kernel
theorem dX7_pay_85 : decode cX7_pay 85 = .ok (.aload_n 0, 1) := by decide +kernel
theorem dX7_pay_86 : decode cX7_pay 86 = .ok (.iload_n 1, 1) := by decide +kernel
theorem dX7_pay_87 : decode cX7_pay 87 = .ok (.iload_n 2, 1) := by decide +kernel
theorem dX7_pay_88 : decode cX7_pay 88 = .ok (.invokevirtual 173, 3) := by decide +kernel
theorem dX7_pay_91 : decode cX7_pay 91 = .ok (.aload_n 0, 1) := by decide +kernel
theorem dX7_pay_92 : decode cX7_pay 92 = .ok (.getfield 7, 3) := by decide +kernel
theorem dX7_pay_95 : decode cX7_pay 95 = .ok (.iload_n 3, 1) := by decide +kernel
theorem dX7_pay_96 : decode cX7_pay 96 = .ok (.iconst 3, 1) := by decide +kernel
theorem dX7_pay_97 : decode cX7_pay 97 = .ok (.iadd, 1) := by decide +kernel
theorem dX7_pay_98 : decode cX7_pay 98 = .ok (.iaload, 1) := by decide +kernel
theorem dX7_pay_99 : decode cX7_pay 99 = .ok (.ireturn, 1) := by decide +kernel
theorem dX7_isBetween_0 : decode cX7_isBetween 0 = .ok (.iload_n 2, 1) := by decide +kernel
theorem dX7_isBetween_1 : decode cX7_isBetween 1 = .ok (.ifCond .le 24, 3) := by decide +kernel
theorem dX7_isBetween_4 : decode cX7_isBetween 4 = .ok (.iload_n 2, 1) := by decide +kernel
theorem dX7_isBetween_5 : decode cX7_isBetween 5 = .ok (.aload_n 0, 1) := by decide +kernel
theorem dX7_isBetween_6 : decode cX7_isBetween 6 = .ok (.getfield 7, 3) := by decide +kernel
theorem dX7_isBetween_9 : decode cX7_isBetween 9 = .ok (.bipush 40, 2) := by decide +kernel
theorem dX7_isBetween_11 : decode cX7_isBetween 11 = .ok (.iload_n 1, 1) := by decide +kernel
theorem dX7_isBetween_12 : decode cX7_isBetween 12 = .ok (.imul, 1) := by decide +kernel
theorem dX7_isBetween_13 : decode cX7_isBetween 13 = .ok (.iconst 3, 1) := by decide +kernel
theorem dX7_isBetween_14 : decode cX7_isBetween 14 = .ok (.iadd, 1) := by decide +kernel
theorem dX7_isBetween_15 : decode cX7_isBetween 15 = .ok (.iaload, 1) := by decide +kernel
theorem dX7_isBetween_16 : decode cX7_isBetween 16 = .ok (.iconst 1, 1) := by decide +kernel
theorem dX7_isBetween_17 : decode cX7_isBetween 17 = .ok (.isub, 1) := by decide +kernel
theorem dX7_isBetween_18 : decode cX7_isBetween 18 = .ok (.if_icmp .ge 7, 3) := by decide +kernel
theorem dX7_isBetween_21 : decode cX7_isBetween 21 = .ok (.iconst 1, 1) := by decide +kernel
theorem dX7_isBetween_22 : decode cX7_isBetween 22 = .ok (.goto 4, 3) := by decide +kernel
theorem dX7_isBetween_25 : decode cX7_isBetween 25 = .ok (.iconst 0, 1) := by decide +kernel
theorem dX7_isBetween_26 : decode cX7_isBetween 26 = .ok (.ireturn, 1) := by decide +kernel
theorem dX7_cut_0 : decode cX7_cut 0 = .ok (.aload_n 0, 1) := by decide +kernel
theorem dX7_cut_1 : decode cX7_cut 1 = .ok (.iload_n 1, 1) := by decide +kernel
theorem dX7_cut_2 : decode cX7_cut 2 = .ok (.iload_n 2, 1) := by decide +kernel
theorem dX7_cut_3 : decode cX7_cut 3 = .ok (.invokevirtual 91, 3) := by decide +kernel
theorem dX7_cut_6 : decode cX7_cut 6 = .ok (.ifCond .ne 5, 3) := by decide +kernel
theorem dX7_cut_9 : decode cX7_cut 9 = .ok (.iconst (-1), 1) := by decide +kernel
theorem dX7_cut_10 : decode cX7_cut 10 = .ok (.ireturn, 1) := by decide +kernel
theorem dX7_cut_11 : decode cX7_cut 11 = .ok (.aload_n 0, 1) := by decide +kernel
theorem dX7_cut_12 : decode cX7_cut 12 = .ok (.iload_n 1, 1) := by decide +kernel
theorem dX7_cut_13 : decode cX7_cut 13 = .ok (.iload_n 2, 1) := by decide +kernel
theorem dX7_cut_14 : decode cX7_cut 14 = .ok (.invokevirtual 177, 3) := by decide +kernel
theorem dX7_cut_17 : decode cX7_cut 17 = .ok (.ifCond .ne 6, 3) := by decide +kernel
theorem dX7_cut_20 : decode cX7_cut 20 = .ok (.bipush (-2), 2) := by decide +kernel
theorem dX7_cut_22 : decode cX7_cut 22 = .ok (.ireturn, 1) := by decide +kernel
theorem dX7_cut_23 : decode cX7_cut 23 = .ok (.aload_n 0, 1) := by decide +kernel
theorem dX7_cut_24 : decode cX7_cut 24 = .ok (.getfield 148, 3) := by decide +kernel
theorem dX7_cut_27 : decode cX7_cut 27 = .ok (.aload_n 0, 1) := by decide +kernel
theorem dX7_cut_28 : decode cX7_cut 28 = .ok (.getfield 25, 3) := by decide +kernel
theorem dX7_cut_31 : decode cX7_cut 31 = .ok (.iconst 1, 1) := by decide +kernel
theorem dX7_cut_32 : decode cX7_cut 32 = .ok (.iaload, 1) := by decide +kernel
theorem dX7_cut_33 : decode cX7_cut 33 = .ok (.if_icmp .lt 6, 3) := by decide +kernel
theorem dX7_cut_36 : decode cX7_cut 36 = .ok (.bipush (-4), 2) := by decide +kernel
theorem dX7_cut_38 : decode cX7_cut 38 = .ok (.ireturn, 1) := by decide +kernel
theorem dX7_cut_39 : decode cX7_cut 39 = .ok (.aload_n 0, 1) := by decide +kernel
theorem dX7_cut_40 : decode cX7_cut 40 = .ok (.aload_n 0, 1) := by decide +kernel
theorem dX7_cut_41 : decode cX7_cut 41 = .ok (.getfield 7, 3) := by decide +kernel
theorem dX7_cut_44 : decode cX7_cut 44 = .ok (.putfield 16, 3) := by decide +kernel
theorem dX7_cut_47 : decode cX7_cut 47 = .ok (.aload_n 0, 1) := by decide +kernel
theorem dX7_cut_48 : decode cX7_cut 48 = .ok (.iload_n 1, 1) := by decide +kernel
theorem dX7_cut_49 : decode cX7_cut 49 = .ok (.iload_n 2, 1) := by decide +kernel
theorem dX7_cut_50 : decode cX7_cut 50 = .ok (.invokevirtual 173, 3) := by decide +kernel
theorem dX7_cut_53 : decode cX7_cut 53 = .ok (.aload_n 0, 1) := by decide +kernel
theorem dX7_cut_54 : decode cX7_cut 54 = .ok (.dup, 1) := by decide +kernel
theorem dX7_cut_55 : decode cX7_cut 55 = .ok (.getfield 148, 3) := by decide +kernel
theorem dX7_cut_58 : decode cX7_cut 58 = .ok (.iconst 1, 1) := by decide +kernel
theorem dX7_cut_59 : decode cX7_cut 59 = .ok (.iadd, 1) := by decide +kernel
theorem dX7_cut_60 : decode cX7_cut 60 = .ok (.putfield 148, 3) := by decide +kernel
theorem dX7_cut_63 : decode cX7_cut 63 = .ok (.aload_n 0, 1) := by decide +kernel
theorem dX7_cut_64 : decode cX7_cut 64 = .ok (.getfield 7, 3) := by decide +kernel
theorem dX7_cut_67 : decode cX7_cut 67 = .ok (.bipush 40, 2) := by decide +kernel
theorem dX7_cut_69 : decode cX7_cut 69 = .ok (.iload_n 1, 1) := by decide +kernel
theorem dX7_cut_70 : decode cX7_cut 70 = .ok (.imul, 1) := by decide +kernel
theorem dX7_cut_71 : decode cX7_cut 71 = .ok (.iconst 3, 1) := by decide +kernel
theorem dX7_cut_72 : decode cX7_cut 72 = .ok (.iadd, 1) := by decide +kernel
theorem dX7_cut_73 : decode cX7_cut 73 = .ok (.iaload, 1) := by decide +kernel
theorem dX7_cut_74 : decode cX7_cut 74 = .ok (.ireturn, 1) := by decide +kernel
theorem dX7_outer_0 : decode cX7_outer 0 = .ok (.bipush 40, 2) := by decide +kernel
theorem dX7_outer_2 : decode cX7_outer 2 = .ok (.iload_n 1, 1) := by decide +kernel
theorem dX7_outer_3 : decode cX7_outer 3 = .ok (.imul, 1) := by decide +kernel
theorem dX7_outer_4 : decode cX7_outer 4 = .ok (.bipush 8, 2) := by decide +kernel
theorem dX7_outer_6 : decode cX7_outer 6 = .ok (.iadd, 1) := by decide +kernel
theorem dX7_outer_7 : decode cX7_outer 7 = .ok (.iconst 4, 1) := by decide +kernel
theorem dX7_outer_8 : decode cX7_outer 8 = .ok (.aload_n 0, 1) := by decide +kernel
theorem dX7_outer_9 : decode cX7_outer 9 = .ok (.getfield 7, 3) := by decide +kernel
theorem dX7_outer_12 : decode cX7_outer 12 = .ok (.bipush 40, 2) := by decide +kernel
theorem dX7_outer_14 : decode cX7_outer 14 = .ok (.iload_n 1, 1) := by decide +kernel
theorem dX7_outer_15 : decode cX7_outer 15 = .ok (.imul, 1) := by decide +kernel
theorem dX7_outer_16 : decode cX7_outer 16 = .ok (.iconst 3, 1) := by decide +kernel
theorem dX7_outer_17 : decode cX7_outer 17 = .ok (.iadd, 1) := by decide +kernel
theorem dX7_outer_18 : decode cX7_outer 18 = .ok (.iaload, 1) := by decide +kernel
theorem dX7_outer_19 : decode cX7_outer 19 = .ok (.iconst 1, 1) := by decide +kernel
theorem dX7_outer_20 : decode cX7_outer 20 = .ok (.isub, 1) := by decide +kernel
theorem dX7_outer_21 : decode cX7_outer 21 = .ok (.imul, 1) := by decide +kernel
theorem dX7_outer_22 : decode cX7_outer 22 = .ok (.iadd, 1) := by decide +kernel
theorem dX7_outer_23 : decode cX7_outer 23 = .ok (.ireturn, 1) := by decide +kernel
theorem dX7_gains_0 : decode cX7_gains 0 = .ok (.aload_n 0, 1) := by decide +kernel
theorem dX7_gains_1 : decode cX7_gains 1 = .ok (.getfield 19, 3) := by decide +kernel
theorem dX7_gains_4 : decode cX7_gains 4 = .ok (.iconst 5, 1) := by decide +kernel
theorem dX7_gains_5 : decode cX7_gains 5 = .ok (.iload_n 1, 1) := by decide +kernel
theorem dX7_gains_6 : decode cX7_gains 6 = .ok (.imul, 1) := by decide +kernel
theorem dX7_gains_7 : decode cX7_gains 7 = .ok (.aload_n 0, 1) := by decide +kernel
theorem dX7_gains_8 : decode cX7_gains 8 = .ok (.getfield 7, 3) := by decide +kernel
theorem dX7_gains_11 : decode cX7_gains 11 = .ok (.aload_n 0, 1) := by decide +kernel
theorem dX7_gains_12 : decode cX7_gains 12 = .ok (.iload_n 1, 1) := by decide +kernel
theorem dX7_gains_13 : decode cX7_gains 13 = .ok (.invokevirtual 180, 3) := by decide +kernel
theorem dX7_gains_16 : decode cX7_gains 16 = .ok (.iaload, 1) := by decide +kernel
theorem dX7_gains_17 : decode cX7_gains 17 = .ok (.iadd, 1) := by decide +kernel
theorem dX7_gains_18 : decode cX7_gains 18 = .ok (.iaload, 1) := by decide +kernel
theorem dX7_gains_19 : decode cX7_gains 19 = .ok (.aload_n 0, 1) := by decide +kernel
theorem dX7_gains_20 : decode cX7_gains 20 = .ok (.getfield 19, 3) := by decide +kernel
theorem dX7_gains_23 : decode cX7_gains 23 = .ok (.iconst 5, 1) := by decide +kernel
theorem dX7_gains_24 : decode cX7_gains 24 = .ok (.iload_n 1, 1) := by decide +kernel
theorem dX7_gains_25 : decode cX7_gains 25 = .ok (.imul, 1) := by decide +kernel
theorem dX7_gains_26 : decode cX7_gains 26 = .ok (.aload_n 0, 1) := by decide +kernel
theorem dX7_gains_27 : decode cX7_gains 27 = .ok (.getfield 7, 3) := by decide +kernel
theorem dX7_gains_30 : decode cX7_gains 30 = .ok (.aload_n 0, 1) := by decide +kernel
theorem dX7_gains_31 : decode cX7_gains 31 = .ok (.iload_n 2, 1) := by decide +kernel
theorem dX7_gains_32 : decode cX7_gains 32 = .ok (.invokevirtual 180, 3) := by decide +kernel
theorem dX7_gains_35 : decode cX7_gains 35 = .ok (.iaload, 1) := by decide +kernel
theorem dX7_gains_36 : decode cX7_gains 36 = .ok (.iadd, 1) := by decide +kernel
theorem dX7_gains_37 : decode cX7_gains 37 = .ok (.iaload, 1) := by decide +kernel
theorem dX7_gains_38 : decode cX7_gains 38 = .ok (.isub, 1) := by decide +kernel
theorem dX7_gains_39 : decode cX7_gains 39 = .ok (.ireturn, 1) := by decide +kernel
theorem dX7_saved_0 : decode cX7_saved 0 = .ok (.iload_n 3, 1) := by decide +kernel
theorem dX7_saved_1 : decode cX7_saved 1 = .ok (.ifCond .ge 7, 3) := by decide +kernel
theorem dX7_saved_4 : decode cX7_saved 4 = .ok (.iload_n 2, 1) := by decide +kernel
theorem dX7_saved_5 : decode cX7_saved 5 = .ok (.goto 4, 3) := by decide +kernel
theorem dX7_saved_8 : decode cX7_saved 8 = .ok (.iload_n 3, 1) := by decide +kernel
theorem dX7_saved_9 : decode cX7_saved 9 = .ok (.istore 4, 2) := by decide +kernel
theorem dX7_saved_11 : decode cX7_saved 11 = .ok (.aload_n 0, 1) := by decide +kernel
theorem dX7_saved_12 : decode cX7_saved 12 = .ok (.iload_n 2, 1) := by decide +kernel
theorem dX7_saved_13 : decode cX7_saved 13 = .ok (.iload_n 1, 1) := by decide +kernel
theorem dX7_saved_14 : decode cX7_saved 14 = .ok (.invokevirtual 183, 3) := by decide +kernel
theorem dX7_saved_17 : decode cX7_saved 17 = .ok (.istore 5, 2) := by decide +kernel
theorem dX7_saved_19 : decode cX7_saved 19 = .ok (.iload_n 3, 1) := by decide +kernel
theorem dX7_saved_20 : decode cX7_saved 20 = .ok (.ifCond .ge 7, 3) := by decide +kernel
theorem dX7_saved_23 : decode cX7_saved 23 = .ok (.iconst 1, 1) := by decide +kernel
theorem dX7_saved_24 : decode cX7_saved 24 = .ok (.goto 9, 3) := by decide +kernel
theorem dX7_saved_27 : decode cX7_saved 27 = .ok (.aload_n 0, 1) := by decide +kernel
theorem dX7_saved_28 : decode cX7_saved 28 = .ok (.iload_n 3, 1) := by decide +kernel
theorem dX7_saved_29 : decode cX7_saved 29 = .ok (.iload_n 2, 1) := by decide +kernel
theorem dX7_saved_30 : decode cX7_saved 30 = .ok (.invokevirtual 183, 3) := by decide +kernel
theorem dX7_saved_33 : decode cX7_saved 33 = .ok (.istore 6, 2) := by decide +kernel
theorem dX7_saved_35 : decode cX7_saved 35 = .ok (.aload_n 0, 1) := by decide +kernel
theorem dX7_saved_36 : decode cX7_saved 36 = .ok (.iload_n 1, 1) := by decide +kernel
theorem dX7_saved_37 : decode cX7_saved 37 = .ok (.iload 4, 2) := by decide +kernel
theorem dX7_saved_39 : decode cX7_saved 39 = .ok (.invokevirtual 183, 3) := by decide +kernel
theorem dX7_saved_42 : decode cX7_saved 42 = .ok (.istore 7, 2) := by decide +kernel
theorem dX7_saved_44 : decode cX7_saved 44 = .ok (.iload 5, 2) := by decide +kernel
theorem dX7_saved_46 : decode cX7_saved 46 = .ok (.iconst 1, 1) := by decide +kernel
theorem dX7_saved_47 : decode cX7_saved 47 = .ok (.if_icmp .lt 15, 3) := by decide +kernel
theorem dX7_saved_50 : decode cX7_saved 50 = .ok (.iload 6, 2) := by decide +kernel
theorem dX7_saved_52 : decode cX7_saved 52 = .ok (.iconst 1, 1) := by decide +kernel
theorem dX7_saved_53 : decode cX7_saved 53 = .ok (.if_icmp .lt 9, 3) := by decide +kernel
theorem dX7_saved_56 : decode cX7_saved 56 = .ok (.iload 7, 2) := by decide +kernel
theorem dX7_saved_58 : decode cX7_saved 58 = .ok (.iconst 1, 1) := by decide +kernel
theorem dX7_saved_59 : decode cX7_saved 59 = .ok (.if_icmp .ge 7, 3) := by decide +kernel
theorem dX7_saved_62 : decode cX7_saved 62 = .ok (.iconst 0, 1) := by decide +kernel
theorem dX7_saved_63 : decode cX7_saved 63 = .ok (.goto 19, 3) := by decide +kernel
theorem dX7_saved_66 : decode cX7_saved 66 = .ok (.iload 5, 2) := by decide +kernel
theorem dX7_saved_68 : decode cX7_saved 68 = .ok (.iload 7, 2) := by decide +kernel
theorem dX7_saved_70 : decode cX7_saved 70 = .ok (.iadd, 1) := by decide +kernel
theorem dX7_saved_71 : decode cX7_saved 71 = .ok (.iload_n 3, 1) := by decide +kernel
theorem dX7_saved_72 : decode cX7_saved 72 = .ok (.ifCond .ge 7, 3) := by decide +kernel
theorem dX7_saved_75 : decode cX7_saved 75 = .ok (.iconst 0, 1) := by decide +kernel
theorem dX7_saved_76 : decode cX7_saved 76 = .ok (.goto 5, 3) := by decide +kernel
theorem dX7_saved_79 : decode cX7_saved 79 = .ok (.iload 6, 2) := by decide +kernel
theorem dX7_saved_81 : decode cX7_saved 81 = .ok (.iadd, 1) := by decide +kernel
theorem dX7_saved_82 : decode cX7_saved 82 = .ok (.ireturn, 1) := by decide +kernel
theorem dX7_ring_0 : decode cX7_ring 0 = .ok (.iload_n 1, 1) := by decide +kernel
theorem dX7_ring_1 : decode cX7_ring 1 = .ok (.iload_n 2, 1) := by decide +kernel
theorem dX7_ring_2 : decode cX7_ring 2 = .ok (.if_icmp .eq 13, 3) := by decide +kernel
theorem dX7_ring_5 : decode cX7_ring 5 = .ok (.iload_n 1, 1) := by decide +kernel
theorem dX7_ring_6 : decode cX7_ring 6 = .ok (.iload_n 3, 1) := by decide +kernel
theorem dX7_ring_7 : decode cX7_ring 7 = .ok (.if_icmp .eq 8, 3) := by decide +kernel
theorem dX7_ring_10 : decode cX7_ring 10 = .ok (.iload_n 2, 1) := by decide +kernel
theorem dX7_ring_11 : decode cX7_ring 11 = .ok (.iload_n 3, 1) := by decide +kernel
theorem dX7_ring_12 : decode cX7_ring 12 = .ok (.if_icmp .ne 7, 3) := by decide +kernel
theorem dX7_ring_15 : decode cX7_ring 15 = .ok (.iconst 1, 1) := by decide +kernel
theorem dX7_ring_16 : decode cX7_ring 16 = .ok (.goto 4, 3) := by decide +kernel
theorem dX7_ring_19 : decode cX7_ring 19 = .ok (.iconst 0, 1) := by decide +kernel
theorem dX7_ring_20 : decode cX7_ring 20 = .ok (.istore 4, 2) := by decide +kernel
theorem dX7_ring_22 : decode cX7_ring 22 = .ok (.aload_n 0, 1) := by decide +kernel
theorem dX7_ring_23 : decode cX7_ring 23 = .ok (.iload_n 1, 1) := by decide +kernel
theorem dX7_ring_24 : decode cX7_ring 24 = .ok (.invokevirtual 80, 3) := by decide +kernel
theorem dX7_ring_27 : decode cX7_ring 27 = .ok (.ifCond .eq 29, 3) := by decide +kernel
theorem dX7_ring_30 : decode cX7_ring 30 = .ok (.aload_n 0, 1) := by decide +kernel
theorem dX7_ring_31 : decode cX7_ring 31 = .ok (.iload_n 2, 1) := by decide +kernel
theorem dX7_ring_32 : decode cX7_ring 32 = .ok (.invokevirtual 80, 3) := by decide +kernel
theorem dX7_ring_35 : decode cX7_ring 35 = .ok (.ifCond .eq 21, 3) := by decide +kernel
theorem dX7_ring_38 : decode cX7_ring 38 = .ok (.iload_n 3, 1) := by decide +kernel
theorem dX7_ring_39 : decode cX7_ring 39 = .ok (.iconst (-1), 1) := by decide +kernel
theorem dX7_ring_40 : decode cX7_ring 40 = .ok (.if_icmp .eq 11, 3) := by decide +kernel
theorem dX7_ring_43 : decode cX7_ring 43 = .ok (.aload_n 0, 1) := by decide +kernel
theorem dX7_ring_44 : decode cX7_ring 44 = .ok (.iload_n 3, 1) := by decide +kernel
theorem dX7_ring_45 : decode cX7_ring 45 = .ok (.invokevirtual 80, 3) := by decide +kernel
theorem dX7_ring_48 : decode cX7_ring 48 = .ok (.ifCond .eq 8, 3) := by decide +kernel
theorem dX7_ring_51 : decode cX7_ring 51 = .ok (.iload 4, 2) := by decide +kernel
theorem dX7_ring_53 : decode cX7_ring 53 = .ok (.ifCond .eq 5, 3) := by decide +kernel
theorem dX7_ring_56 : decode cX7_ring 56 = .ok (.iconst (-1), 1) := by decide +kernel
theorem dX7_ring_57 : decode cX7_ring 57 = .ok (.ireturn, 1) := by decide +kernel
theorem dX7_ring_58 : decode cX7_ring 58 = .ok (.aload_n 0, 1) := by decide +kernel
theorem dX7_ring_59 : decode cX7_ring 59 = .ok (.getfield 7, 3) := by decide +kernel
theorem dX7_ring_62 : decode cX7_ring 62 = .ok (.bipush 40, 2) := by decide +kernel
theorem dX7_ring_64 : decode cX7_ring 64 = .ok (.iload_n 1, 1) := by decide +kernel
theorem dX7_ring_65 : decode cX7_ring 65 = .ok (.imul, 1) := by decide +kernel
theorem dX7_ring_66 : decode cX7_ring 66 = .ok (.iconst 3, 1) := by decide +kernel
theorem dX7_ring_67 : decode cX7_ring 67 = .ok (.iadd, 1) := by decide +kernel
theorem dX7_ring_68 : decode cX7_ring 68 = .ok (.iaload, 1) := by decide +kernel
theorem dX7_ring_69 : decode cX7_ring 69 = .ok (.ifCond .eq 35, 3) := by decide +kernel
theorem dX7_ring_72 : decode cX7_ring 72 = .ok (.aload_n 0, 1) := by decide +kernel
theorem dX7_ring_73 : decode cX7_ring 73 = .ok (.getfield 7, 3) := by decide +kernel
theorem dX7_ring_76 : decode cX7_ring 76 = .ok (.bipush 40, 2) := by decide +kernel
theorem dX7_ring_78 : decode cX7_ring 78 = .ok (.iload_n 2, 1) := by decide +kernel
theorem dX7_ring_79 : decode cX7_ring 79 = .ok (.imul, 1) := by decide +kernel
theorem dX7_ring_80 : decode cX7_ring 80 = .ok (.iconst 3, 1) := by decide +kernel
theorem dX7_ring_81 : decode cX7_ring 81 = .ok (.iadd, 1) := by decide +kernel
theorem dX7_ring_82 : decode cX7_ring 82 = .ok (.iaload, 1) := by decide +kernel
theorem dX7_ring_83 : decode cX7_ring 83 = .ok (.ifCond .eq 21, 3) := by decide +kernel
theorem dX7_ring_86 : decode cX7_ring 86 = .ok (.iload_n 3, 1) := by decide +kernel
theorem dX7_ring_87 : decode cX7_ring 87 = .ok (.ifCond .lt 20, 3) := by decide +kernel
theorem dX7_ring_90 : decode cX7_ring 90 = .ok (.aload_n 0, 1) := by decide +kernel
theorem dX7_ring_91 : decode cX7_ring 91 = .ok (.getfield 7, 3) := by decide +kernel
theorem dX7_ring_94 : decode cX7_ring 94 = .ok (.bipush 40, 2) := by decide +kernel
theorem dX7_ring_96 : decode cX7_ring 96 = .ok (.iload_n 3, 1) := by decide +kernel
theorem dX7_ring_97 : decode cX7_ring 97 = .ok (.imul, 1) := by decide +kernel
theorem dX7_ring_98 : decode cX7_ring 98 = .ok (.iconst 3, 1) := by decide +kernel
theorem dX7_ring_99 : decode cX7_ring 99 = .ok (.iadd, 1) := by decide +kernel
theorem dX7_ring_100 : decode cX7_ring 100 = .ok (.iaload, 1) := by decide +kernel
theorem dX7_ring_101 : decode cX7_ring 101 = .ok (.ifCond .ne 6, 3) := by decide +kernel
theorem dX7_ring_104 : decode cX7_ring 104 = .ok (.bipush (-2), 2) := by decide +kernel
theorem dX7_ring_106 : decode cX7_ring 106 = .ok (.ireturn, 1) := by decide +kernel
theorem dX7_ring_107 : decode cX7_ring 107 = .ok (.aload_n 0, 1) := by decide +kernel
theorem dX7_ring_108 : decode cX7_ring 108 = .ok (.iload_n 1, 1) := by decide +kernel
theorem dX7_ring_109 : decode cX7_ring 109 = .ok (.iload_n 2, 1) := by decide +kernel
theorem dX7_ring_110 : decode cX7_ring 110 = .ok (.iload_n 3, 1) := by decide +kernel
theorem dX7_ring_111 : decode cX7_ring 111 = .ok (.invokevirtual 186, 3) := by decide +kernel
theorem dX7_ring_114 : decode cX7_ring 114 = .ok (.istore 5, 2) := by decide +kernel
theorem dX7_ring_116 : decode cX7_ring 116 = .ok (.iload 5, 2) := by decide +kernel
theorem dX7_ring_118 : decode cX7_ring 118 = .ok (.ifCond .ne 6, 3) := by decide +kernel
theorem dX7_ring_121 : decode cX7_ring 121 = .ok (.bipush (-4), 2) := by decide +kernel
theorem dX7_ring_123 : decode cX7_ring 123 = .ok (.ireturn, 1) := by decide +kernel
theorem dX7_ring_124 : decode cX7_ring 124 = .ok (.iload_n 3, 1) := by decide +kernel
theorem dX7_ring_125 : decode cX7_ring 125 = .ok (.ifCond .ge 7, 3) := by decide +kernel
theorem dX7_ring_128 : decode cX7_ring 128 = .ok (.iload_n 2, 1) := by decide +kernel
theorem dX7_ring_129 : decode cX7_ring 129 = .ok (.goto 4, 3) := by decide +kernel
theorem dX7_ring_132 : decode cX7_ring 132 = .ok (.iload_n 3, 1) := by decide +kernel
theorem dX7_ring_133 : decode cX7_ring 133 = .ok (.istore 6, 2) := by decide +kernel
theorem dX7_ring_135 : decode cX7_ring 135 = .ok (.iconst 0, 1) := by decide +kernel
theorem dX7_ring_136 : decode cX7_ring 136 = .ok (.istore 7, 2) := by decide +kernel
theorem dX7_ring_138 : decode cX7_ring 138 = .ok (.iload 7, 2) := by decide +kernel
theorem dX7_ring_140 : decode cX7_ring 140 = .ok (.iconst 4, 1) := by decide +kernel
theorem dX7_ring_141 : decode cX7_ring 141 = .ok (.if_icmp .ge 117, 3) := by decide +kernel
theorem dX7_ring_144 : decode cX7_ring 144 = .ok (.aload_n 0, 1) := by decide +kernel
theorem dX7_ring_145 : decode cX7_ring 145 = .ok (.getfield 7, 3) := by decide +kernel
theorem dX7_ring_148 : decode cX7_ring 148 = .ok (.aload_n 0, 1) := by decide +kernel
theorem dX7_ring_149 : decode cX7_ring 149 = .ok (.iload 6, 2) := by decide +kernel
theorem dX7_ring_151 : decode cX7_ring 151 = .ok (.invokevirtual 180, 3) := by decide +kernel
theorem dX7_ring_154 : decode cX7_ring 154 = .ok (.iload 7, 2) := by decide +kernel
theorem dX7_ring_156 : decode cX7_ring 156 = .ok (.iadd, 1) := by decide +kernel
theorem dX7_ring_157 : decode cX7_ring 157 = .ok (.iaload, 1) := by decide +kernel
theorem dX7_ring_158 : decode cX7_ring 158 = .ok (.istore 8, 2) := by decide +kernel
theorem dX7_ring_160 : decode cX7_ring 160 = .ok (.aload_n 0, 1) := by decide +kernel
theorem dX7_ring_161 : decode cX7_ring 161 = .ok (.getfield 7, 3) := by decide +kernel
theorem dX7_ring_164 : decode cX7_ring 164 = .ok (.aload_n 0, 1) := by decide +kernel
theorem dX7_ring_165 : decode cX7_ring 165 = .ok (.iload 6, 2) := by decide +kernel
theorem dX7_ring_167 : decode cX7_ring 167 = .ok (.invokevirtual 180, 3) := by decide +kernel
theorem dX7_ring_170 : decode cX7_ring 170 = .ok (.iload 7, 2) := by decide +kernel
theorem dX7_ring_172 : decode cX7_ring 172 = .ok (.iadd, 1) := by decide +kernel
theorem dX7_ring_173 : decode cX7_ring 173 = .ok (.iload_n 3, 1) := by decide +kernel
theorem dX7_ring_174 : decode cX7_ring 174 = .ok (.ifCond .ge 19, 3) := by decide +kernel
theorem dX7_ring_177 : decode cX7_ring 177 = .ok (.aload_n 0, 1) := by decide +kernel
theorem dX7_ring_178 : decode cX7_ring 178 = .ok (.getfield 7, 3) := by decide +kernel
theorem dX7_ring_181 : decode cX7_ring 181 = .ok (.aload_n 0, 1) := by decide +kernel
theorem dX7_ring_182 : decode cX7_ring 182 = .ok (.iload_n 1, 1) := by decide +kernel
theorem dX7_ring_183 : decode cX7_ring 183 = .ok (.invokevirtual 180, 3) := by decide +kernel
theorem dX7_ring_186 : decode cX7_ring 186 = .ok (.iload 7, 2) := by decide +kernel
theorem dX7_ring_188 : decode cX7_ring 188 = .ok (.iadd, 1) := by decide +kernel
theorem dX7_ring_189 : decode cX7_ring 189 = .ok (.iaload, 1) := by decide +kernel
theorem dX7_ring_190 : decode cX7_ring 190 = .ok (.goto 16, 3) := by decide +kernel
theorem dX7_ring_193 : decode cX7_ring 193 = .ok (.aload_n 0, 1) := by decide +kernel
theorem dX7_ring_194 : decode cX7_ring 194 = .ok (.getfield 7, 3) := by decide +kernel
theorem dX7_ring_197 : decode cX7_ring 197 = .ok (.aload_n 0, 1) := by decide +kernel
theorem dX7_ring_198 : decode cX7_ring 198 = .ok (.iload_n 2, 1) := by decide +kernel
theorem dX7_ring_199 : decode cX7_ring 199 = .ok (.invokevirtual 180, 3) := by decide +kernel
theorem dX7_ring_202 : decode cX7_ring 202 = .ok (.iload 7, 2) := by decide +kernel
theorem dX7_ring_204 : decode cX7_ring 204 = .ok (.iadd, 1) := by decide +kernel
theorem dX7_ring_205 : decode cX7_ring 205 = .ok (.iaload, 1) := by decide +kernel
theorem dX7_ring_206 : decode cX7_ring 206 = .ok (.iastore, 1) := by decide +kernel
theorem dX7_ring_207 : decode cX7_ring 207 = .ok (.iload_n 3, 1) := by decide +kernel
theorem dX7_ring_208 : decode cX7_ring 208 = .ok (.ifCond .lt 29, 3) := by decide +kernel
theorem dX7_ring_211 : decode cX7_ring 211 = .ok (.aload_n 0, 1) := by decide +kernel
theorem dX7_ring_212 : decode cX7_ring 212 = .ok (.getfield 7, 3) := by decide +kernel
theorem dX7_ring_215 : decode cX7_ring 215 = .ok (.aload_n 0, 1) := by decide +kernel
theorem dX7_ring_216 : decode cX7_ring 216 = .ok (.iload_n 2, 1) := by decide +kernel
theorem dX7_ring_217 : decode cX7_ring 217 = .ok (.invokevirtual 180, 3) := by decide +kernel
theorem dX7_ring_220 : decode cX7_ring 220 = .ok (.iload 7, 2) := by decide +kernel
theorem dX7_ring_222 : decode cX7_ring 222 = .ok (.iadd, 1) := by decide +kernel
theorem dX7_ring_223 : decode cX7_ring 223 = .ok (.aload_n 0, 1) := by decide +kernel
theorem dX7_ring_224 : decode cX7_ring 224 = .ok (.getfield 7, 3) := by decide +kernel
theorem dX7_ring_227 : decode cX7_ring 227 = .ok (.aload_n 0, 1) := by decide +kernel
theorem dX7_ring_228 : decode cX7_ring 228 = .ok (.iload_n 1, 1) := by decide +kernel
theorem dX7_ring_229 : decode cX7_ring 229 = .ok (.invokevirtual 180, 3) := by decide +kernel
theorem dX7_ring_232 : decode cX7_ring 232 = .ok (.iload 7, 2) := by decide +kernel
theorem dX7_ring_234 : decode cX7_ring 234 = .ok (.iadd, 1) := by decide +kernel
theorem dX7_ring_235 : decode cX7_ring 235 = .ok (.iaload, 1) := by decide +kernel
theorem dX7_ring_236 : decode cX7_ring 236 = .ok (.iastore, 1) := by decide +kernel
theorem dX7_ring_237 : decode cX7_ring 237 = .ok (.aload_n 0, 1) := by decide +kernel
theorem dX7_ring_238 : decode cX7_ring 238 = .ok (.getfield 7, 3) := by decide +kernel
theorem dX7_ring_241 : decode cX7_ring 241 = .ok (.aload_n 0, 1) := by decide +kernel
theorem dX7_ring_242 : decode cX7_ring 242 = .ok (.iload_n 1, 1) := by decide +kernel
theorem dX7_ring_243 : decode cX7_ring 243 = .ok (.invokevirtual 180, 3) := by decide +kernel
theorem dX7_ring_246 : decode cX7_ring 246 = .ok (.iload 7, 2) := by decide +kernel
theorem dX7_ring_248 : decode cX7_ring 248 = .ok (.iadd, 1) := by decide +kernel
theorem dX7_ring_249 : decode cX7_ring 249 = .ok (.iload 8, 2) := by decide +kernel
theorem dX7_ring_251 : decode cX7_ring 251 = .ok (.iastore, 1) := by decide +kernel
theorem dX7_ring_252 : decode cX7_ring 252 = .ok (.iinc 7 1, 3) := by decide +kernel
theorem dX7_ring_255 : decode cX7_ring 255 = .ok (.goto (-117), 3) := by decide +kernel
theorem dX7_ring_258 : decode cX7_ring 258 = .ok (.iload 5, 2) := by decide +kernel
theorem dX7_ring_260 : decode cX7_ring 260 = .ok (.ireturn, 1) := by decide +kernel
theorem dX7_rings_0 : decode cX7_rings 0 = .ok (.iload_n 1, 1) := by decide +kernel
theorem dX7_rings_1 : decode cX7_rings 1 = .ok (.i2l, 1) := by decide +kernel
theorem dX7_rings_2 : decode cX7_rings 2 = .ok (.ldc2_w 190, 3) := by decide +kernel
theorem dX7_rings_5 : decode cX7_rings 5 = .ok (.ldc2_w 106, 3) := by decide +kernel
theorem dX7_rings_8 : decode cX7_rings 8 = .ok (.invokestatic 68, 3) := by decide +kernel
theorem dX7_rings_11 : decode cX7_rings 11 = .ok (.ifCond .ne 5, 3) := by decide +kernel
theorem dX7_rings_14 : decode cX7_rings 14 = .ok (.iconst (-1), 1) := by decide +kernel
theorem dX7_rings_15 : decode cX7_rings 15 = .ok (.ireturn, 1) := by decide +kernel
theorem dX7_rings_16 : decode cX7_rings 16 = .ok (.iconst 0, 1) := by decide +kernel
theorem dX7_rings_17 : decode cX7_rings 17 = .ok (.istore_n 2, 1) := by decide +kernel
theorem dX7_rings_18 : decode cX7_rings 18 = .ok (.bipush (-4), 2) := by decide +kernel
theorem dX7_rings_20 : decode cX7_rings 20 = .ok (.istore_n 3, 1) := by decide +kernel
theorem dX7_rings_21 : decode cX7_rings 21 = .ok (.iconst 0, 1) := by decide +kernel
theorem dX7_rings_22 : decode cX7_rings 22 = .ok (.istore 4, 2) := by decide +kernel
theorem dX7_rings_24 : decode cX7_rings 24 = .ok (.iload 4, 2) := by decide +kernel
theorem dX7_rings_26 : decode cX7_rings 26 = .ok (.sipush 150, 3) := by decide +kernel
theorem dX7_rings_29 : decode cX7_rings 29 = .ok (.if_icmp .ge 247, 3) := by decide +kernel
theorem dX7_rings_32 : decode cX7_rings 32 = .ok (.iload 4, 2) := by decide +kernel
theorem dX7_rings_34 : decode cX7_rings 34 = .ok (.bipush 25, 2) := by decide +kernel
theorem dX7_rings_36 : decode cX7_rings 36 = .ok (.if_icmp .ge 10, 3) := by decide +kernel
theorem dX7_rings_39 : decode cX7_rings 39 = .ok (.iload 4, 2) := by decide +kernel
theorem dX7_rings_41 : decode cX7_rings 41 = .ok (.iconst 5, 1) := by decide +kernel
theorem dX7_rings_42 : decode cX7_rings 42 = .ok (.idiv, 1) := by decide +kernel
theorem dX7_rings_43 : decode cX7_rings 43 = .ok (.goto 11, 3) := by decide +kernel
theorem dX7_rings_46 : decode cX7_rings 46 = .ok (.iload 4, 2) := by decide +kernel
theorem dX7_rings_48 : decode cX7_rings 48 = .ok (.bipush 25, 2) := by decide +kernel
theorem dX7_rings_50 : decode cX7_rings 50 = .ok (.isub, 1) := by decide +kernel
theorem dX7_rings_51 : decode cX7_rings 51 = .ok (.bipush 25, 2) := by decide +kernel
theorem dX7_rings_53 : decode cX7_rings 53 = .ok (.idiv, 1) := by decide +kernel
theorem dX7_rings_54 : decode cX7_rings 54 = .ok (.istore 5, 2) := by decide +kernel
theorem dX7_rings_56 : decode cX7_rings 56 = .ok (.iload 4, 2) := by decide +kernel
theorem dX7_rings_58 : decode cX7_rings 58 = .ok (.bipush 25, 2) := by decide +kernel
theorem dX7_rings_60 : decode cX7_rings 60 = .ok (.if_icmp .ge 10, 3) := by decide +kernel
theorem dX7_rings_63 : decode cX7_rings 63 = .ok (.iload 4, 2) := by decide +kernel
theorem dX7_rings_65 : decode cX7_rings 65 = .ok (.iconst 5, 1) := by decide +kernel
theorem dX7_rings_66 : decode cX7_rings 66 = .ok (.irem, 1) := by decide +kernel
theorem dX7_rings_67 : decode cX7_rings 67 = .ok (.goto 12, 3) := by decide +kernel
theorem dX7_rings_70 : decode cX7_rings 70 = .ok (.iload 4, 2) := by decide +kernel
theorem dX7_rings_72 : decode cX7_rings 72 = .ok (.bipush 25, 2) := by decide +kernel
theorem dX7_rings_74 : decode cX7_rings 74 = .ok (.isub, 1) := by decide +kernel
theorem dX7_rings_75 : decode cX7_rings 75 = .ok (.iconst 5, 1) := by decide +kernel
theorem dX7_rings_76 : decode cX7_rings 76 = .ok (.idiv, 1) := by decide +kernel
theorem dX7_rings_77 : decode cX7_rings 77 = .ok (.iconst 5, 1) := by decide +kernel
theorem dX7_rings_78 : decode cX7_rings 78 = .ok (.irem, 1) := by decide +kernel
theorem dX7_rings_79 : decode cX7_rings 79 = .ok (.istore 6, 2) := by decide +kernel
theorem dX7_rings_81 : decode cX7_rings 81 = .ok (.iload 4, 2) := by decide +kernel
theorem dX7_rings_83 : decode cX7_rings 83 = .ok (.bipush 25, 2) := by decide +kernel
theorem dX7_rings_85 : decode cX7_rings 85 = .ok (.if_icmp .ge 7, 3) := by decide +kernel
theorem dX7_rings_88 : decode cX7_rings 88 = .ok (.iconst (-1), 1) := by decide +kernel
theorem dX7_rings_89 : decode cX7_rings 89 = .ok (.goto 10, 3) := by decide +kernel
theorem dX7_rings_92 : decode cX7_rings 92 = .ok (.iload 4, 2) := by decide +kernel
theorem dX7_rings_94 : decode cX7_rings 94 = .ok (.bipush 25, 2) := by decide +kernel
theorem dX7_rings_96 : decode cX7_rings 96 = .ok (.isub, 1) := by decide +kernel
theorem dX7_rings_97 : decode cX7_rings 97 = .ok (.iconst 5, 1) := by decide +kernel
theorem dX7_rings_98 : decode cX7_rings 98 = .ok (.irem, 1) := by decide +kernel
theorem dX7_rings_99 : decode cX7_rings 99 = .ok (.istore 7, 2) := by decide +kernel
theorem dX7_rings_101 : decode cX7_rings 101 = .ok (.iload 5, 2) := by decide +kernel
theorem dX7_rings_103 : decode cX7_rings 103 = .ok (.aload_n 0, 1) := by decide +kernel
theorem dX7_rings_104 : decode cX7_rings 104 = .ok (.getfield 64, 3) := by decide +kernel
theorem dX7_rings_107 : decode cX7_rings 107 = .ok (.if_icmp .ge 51, 3) := by decide +kernel
theorem dX7_rings_110 : decode cX7_rings 110 = .ok (.iload 6, 2) := by decide +kernel
theorem dX7_rings_112 : decode cX7_rings 112 = .ok (.aload_n 0, 1) := by decide +kernel
theorem dX7_rings_113 : decode cX7_rings 113 = .ok (.getfield 64, 3) := by decide +kernel
theorem dX7_rings_116 : decode cX7_rings 116 = .ok (.if_icmp .ge 42, 3) := by decide +kernel
theorem dX7_rings_119 : decode cX7_rings 119 = .ok (.iload 7, 2) := by decide +kernel
theorem dX7_rings_121 : decode cX7_rings 121 = .ok (.aload_n 0, 1) := by decide +kernel
theorem dX7_rings_122 : decode cX7_rings 122 = .ok (.getfield 64, 3) := by decide +kernel
theorem dX7_rings_125 : decode cX7_rings 125 = .ok (.if_icmp .ge 33, 3) := by decide +kernel
theorem dX7_rings_128 : decode cX7_rings 128 = .ok (.iload 5, 2) := by decide +kernel
theorem dX7_rings_130 : decode cX7_rings 130 = .ok (.iload 6, 2) := by decide +kernel
theorem dX7_rings_132 : decode cX7_rings 132 = .ok (.if_icmp .ge 26, 3) := by decide +kernel
theorem dX7_rings_135 : decode cX7_rings 135 = .ok (.iload 6, 2) := by decide +kernel
theorem dX7_rings_137 : decode cX7_rings 137 = .ok (.iload 7, 2) := by decide +kernel
theorem dX7_rings_139 : decode cX7_rings 139 = .ok (.if_icmp .eq 19, 3) := by decide +kernel
theorem dX7_rings_142 : decode cX7_rings 142 = .ok (.iload 7, 2) := by decide +kernel
theorem dX7_rings_144 : decode cX7_rings 144 = .ok (.ifCond .lt 10, 3) := by decide +kernel
theorem dX7_rings_147 : decode cX7_rings 147 = .ok (.iload 5, 2) := by decide +kernel
theorem dX7_rings_149 : decode cX7_rings 149 = .ok (.iload 7, 2) := by decide +kernel
theorem dX7_rings_151 : decode cX7_rings 151 = .ok (.if_icmp .ge 7, 3) := by decide +kernel
theorem dX7_rings_154 : decode cX7_rings 154 = .ok (.iconst 1, 1) := by decide +kernel
theorem dX7_rings_155 : decode cX7_rings 155 = .ok (.goto 4, 3) := by decide +kernel
theorem dX7_rings_158 : decode cX7_rings 158 = .ok (.iconst 0, 1) := by decide +kernel
theorem dX7_rings_159 : decode cX7_rings 159 = .ok (.istore 8, 2) := by decide +kernel
theorem dX7_rings_161 : decode cX7_rings 161 = .ok (.iload 8, 2) := by decide +kernel
theorem dX7_rings_163 : decode cX7_rings 163 = .ok (.ifCond .eq 57, 3) := by decide +kernel
theorem dX7_rings_166 : decode cX7_rings 166 = .ok (.aload_n 0, 1) := by decide +kernel
theorem dX7_rings_167 : decode cX7_rings 167 = .ok (.getfield 7, 3) := by decide +kernel
theorem dX7_rings_170 : decode cX7_rings 170 = .ok (.bipush 40, 2) := by decide +kernel
theorem dX7_rings_172 : decode cX7_rings 172 = .ok (.iload 5, 2) := by decide +kernel
theorem dX7_rings_174 : decode cX7_rings 174 = .ok (.imul, 1) := by decide +kernel
theorem dX7_rings_175 : decode cX7_rings 175 = .ok (.iconst 3, 1) := by decide +kernel
theorem dX7_rings_176 : decode cX7_rings 176 = .ok (.iadd, 1) := by decide +kernel
theorem dX7_rings_177 : decode cX7_rings 177 = .ok (.iaload, 1) := by decide +kernel
theorem dX7_rings_178 : decode cX7_rings 178 = .ok (.ifCond .le 42, 3) := by decide +kernel
theorem dX7_rings_181 : decode cX7_rings 181 = .ok (.aload_n 0, 1) := by decide +kernel
theorem dX7_rings_182 : decode cX7_rings 182 = .ok (.getfield 7, 3) := by decide +kernel
theorem dX7_rings_185 : decode cX7_rings 185 = .ok (.bipush 40, 2) := by decide +kernel
theorem dX7_rings_187 : decode cX7_rings 187 = .ok (.iload 6, 2) := by decide +kernel
theorem dX7_rings_189 : decode cX7_rings 189 = .ok (.imul, 1) := by decide +kernel
theorem dX7_rings_190 : decode cX7_rings 190 = .ok (.iconst 3, 1) := by decide +kernel
theorem dX7_rings_191 : decode cX7_rings 191 = .ok (.iadd, 1) := by decide +kernel
theorem dX7_rings_192 : decode cX7_rings 192 = .ok (.iaload, 1) := by decide +kernel
theorem dX7_rings_193 : decode cX7_rings 193 = .ok (.ifCond .le 27, 3) := by decide +kernel
theorem dX7_rings_196 : decode cX7_rings 196 = .ok (.iload 7, 2) := by decide +kernel
theorem dX7_rings_198 : decode cX7_rings 198 = .ok (.ifCond .lt 18, 3) := by decide +kernel
theorem dX7_rings_201 : decode cX7_rings 201 = .ok (.aload_n 0, 1) := by decide +kernel
theorem dX7_rings_202 : decode cX7_rings 202 = .ok (.getfield 7, 3) := by decide +kernel
theorem dX7_rings_205 : decode cX7_rings 205 = .ok (.bipush 40, 2) := by decide +kernel
theorem dX7_rings_207 : decode cX7_rings 207 = .ok (.iload 7, 2) := by decide +kernel
theorem dX7_rings_209 : decode cX7_rings 209 = .ok (.imul, 1) := by decide +kernel
theorem dX7_rings_210 : decode cX7_rings 210 = .ok (.iconst 3, 1) := by decide +kernel
theorem dX7_rings_211 : decode cX7_rings 211 = .ok (.iadd, 1) := by decide +kernel
theorem dX7_rings_212 : decode cX7_rings 212 = .ok (.iaload, 1) := by decide +kernel
theorem dX7_rings_213 : decode cX7_rings 213 = .ok (.ifCond .le 7, 3) := by decide +kernel
theorem dX7_rings_216 : decode cX7_rings 216 = .ok (.iconst 1, 1) := by decide +kernel
theorem dX7_rings_217 : decode cX7_rings 217 = .ok (.goto 4, 3) := by decide +kernel
theorem dX7_rings_220 : decode cX7_rings 220 = .ok (.iconst 0, 1) := by decide +kernel
theorem dX7_rings_221 : decode cX7_rings 221 = .ok (.istore 8, 2) := by decide +kernel
theorem dX7_rings_223 : decode cX7_rings 223 = .ok (.iload 8, 2) := by decide +kernel
theorem dX7_rings_225 : decode cX7_rings 225 = .ok (.ifCond .eq 16, 3) := by decide +kernel
theorem dX7_rings_228 : decode cX7_rings 228 = .ok (.aload_n 0, 1) := by decide +kernel
theorem dX7_rings_229 : decode cX7_rings 229 = .ok (.iload 5, 2) := by decide +kernel
theorem dX7_rings_231 : decode cX7_rings 231 = .ok (.iload 6, 2) := by decide +kernel
theorem dX7_rings_233 : decode cX7_rings 233 = .ok (.iload 7, 2) := by decide +kernel
theorem dX7_rings_235 : decode cX7_rings 235 = .ok (.invokevirtual 186, 3) := by decide +kernel
theorem dX7_rings_238 : decode cX7_rings 238 = .ok (.goto 4, 3) := by decide +kernel
theorem dX7_rings_241 : decode cX7_rings 241 = .ok (.iconst 0, 1) := by decide +kernel
theorem dX7_rings_242 : decode cX7_rings 242 = .ok (.istore 9, 2) := by decide +kernel
theorem dX7_rings_244 : decode cX7_rings 244 = .ok (.iload 9, 2) := by decide +kernel
theorem dX7_rings_246 : decode cX7_rings 246 = .ok (.iload_n 2, 1) := by decide +kernel
theorem dX7_rings_247 : decode cX7_rings 247 = .ok (.if_icmp .le 8, 3) := by decide +kernel
theorem dX7_rings_250 : decode cX7_rings 250 = .ok (.iload 4, 2) := by decide +kernel
theorem dX7_rings_252 : decode cX7_rings 252 = .ok (.goto 4, 3) := by decide +kernel
theorem dX7_rings_255 : decode cX7_rings 255 = .ok (.iload_n 3, 1) := by decide +kernel
theorem dX7_rings_256 : decode cX7_rings 256 = .ok (.istore_n 3, 1) := by decide +kernel
theorem dX7_rings_257 : decode cX7_rings 257 = .ok (.iload 9, 2) := by decide +kernel
theorem dX7_rings_259 : decode cX7_rings 259 = .ok (.iload_n 2, 1) := by decide +kernel
theorem dX7_rings_260 : decode cX7_rings 260 = .ok (.if_icmp .le 8, 3) := by decide +kernel
theorem dX7_rings_263 : decode cX7_rings 263 = .ok (.iload 9, 2) := by decide +kernel
theorem dX7_rings_265 : decode cX7_rings 265 = .ok (.goto 4, 3) := by decide +kernel
theorem dX7_rings_268 : decode cX7_rings 268 = .ok (.iload_n 2, 1) := by decide +kernel
theorem dX7_rings_269 : decode cX7_rings 269 = .ok (.istore_n 2, 1) := by decide +kernel
theorem dX7_rings_270 : decode cX7_rings 270 = .ok (.iinc 4 1, 3) := by decide +kernel
theorem dX7_rings_273 : decode cX7_rings 273 = .ok (.goto (-249), 3) := by decide +kernel
theorem dX7_rings_276 : decode cX7_rings 276 = .ok (.iload_n 3, 1) := by decide +kernel
theorem dX7_rings_277 : decode cX7_rings 277 = .ok (.ifCond .ge 6, 3) := by decide +kernel
theorem dX7_rings_280 : decode cX7_rings 280 = .ok (.bipush (-4), 2) := by decide +kernel
theorem dX7_rings_282 : decode cX7_rings 282 = .ok (.ireturn, 1) := by decide +kernel
theorem dX7_rings_283 : decode cX7_rings 283 = .ok (.iload_n 1, 1) := by decide +kernel
theorem dX7_rings_284 : decode cX7_rings 284 = .ok (.iconst (-1), 1) := by decide +kernel
theorem dX7_rings_285 : decode cX7_rings 285 = .ok (.if_icmp .ne 5, 3) := by decide +kernel
theorem dX7_rings_288 : decode cX7_rings 288 = .ok (.iload_n 2, 1) := by decide +kernel
theorem dX7_rings_289 : decode cX7_rings 289 = .ok (.ireturn, 1) := by decide +kernel
theorem dX7_rings_290 : decode cX7_rings 290 = .ok (.iload_n 3, 1) := by decide +kernel
theorem dX7_rings_291 : decode cX7_rings 291 = .ok (.bipush 25, 2) := by decide +kernel
theorem dX7_rings_293 : decode cX7_rings 293 = .ok (.if_icmp .ge 7, 3) := by decide +kernel
theorem dX7_rings_296 : decode cX7_rings 296 = .ok (.iload_n 3, 1) := by decide +kernel
theorem dX7_rings_297 : decode cX7_rings 297 = .ok (.goto 7, 3) := by decide +kernel
theorem dX7_rings_300 : decode cX7_rings 300 = .ok (.iload_n 3, 1) := by decide +kernel
theorem dX7_rings_301 : decode cX7_rings 301 = .ok (.bipush 25, 2) := by decide +kernel
theorem dX7_rings_303 : decode cX7_rings 303 = .ok (.isub, 1) := by decide +kernel
theorem dX7_rings_304 : decode cX7_rings 304 = .ok (.istore 4, 2) := by decide +kernel
theorem dX7_rings_306 : decode cX7_rings 306 = .ok (.iload_n 3, 1) := by decide +kernel
theorem dX7_rings_307 : decode cX7_rings 307 = .ok (.bipush 25, 2) := by decide +kernel
theorem dX7_rings_309 : decode cX7_rings 309 = .ok (.if_icmp .ge 31, 3) := by decide +kernel
theorem dX7_rings_312 : decode cX7_rings 312 = .ok (.iload_n 1, 1) := by decide +kernel
theorem dX7_rings_313 : decode cX7_rings 313 = .ok (.ifCond .ne 10, 3) := by decide +kernel
theorem dX7_rings_316 : decode cX7_rings 316 = .ok (.iload 4, 2) := by decide +kernel
theorem dX7_rings_318 : decode cX7_rings 318 = .ok (.iconst 5, 1) := by decide +kernel
theorem dX7_rings_319 : decode cX7_rings 319 = .ok (.idiv, 1) := by decide +kernel
theorem dX7_rings_320 : decode cX7_rings 320 = .ok (.goto 50, 3) := by decide +kernel
theorem dX7_rings_323 : decode cX7_rings 323 = .ok (.iload_n 1, 1) := by decide +kernel
theorem dX7_rings_324 : decode cX7_rings 324 = .ok (.iconst 1, 1) := by decide +kernel
theorem dX7_rings_325 : decode cX7_rings 325 = .ok (.if_icmp .ne 10, 3) := by decide +kernel
theorem dX7_rings_328 : decode cX7_rings 328 = .ok (.iload 4, 2) := by decide +kernel
theorem dX7_rings_330 : decode cX7_rings 330 = .ok (.iconst 5, 1) := by decide +kernel
theorem dX7_rings_331 : decode cX7_rings 331 = .ok (.irem, 1) := by decide +kernel
theorem dX7_rings_332 : decode cX7_rings 332 = .ok (.goto 38, 3) := by decide +kernel
theorem dX7_rings_335 : decode cX7_rings 335 = .ok (.bipush (-4), 2) := by decide +kernel
theorem dX7_rings_337 : decode cX7_rings 337 = .ok (.goto 33, 3) := by decide +kernel
theorem dX7_rings_340 : decode cX7_rings 340 = .ok (.iload_n 1, 1) := by decide +kernel
theorem dX7_rings_341 : decode cX7_rings 341 = .ok (.ifCond .ne 11, 3) := by decide +kernel
theorem dX7_rings_344 : decode cX7_rings 344 = .ok (.iload 4, 2) := by decide +kernel
theorem dX7_rings_346 : decode cX7_rings 346 = .ok (.bipush 25, 2) := by decide +kernel
theorem dX7_rings_348 : decode cX7_rings 348 = .ok (.idiv, 1) := by decide +kernel
theorem dX7_rings_349 : decode cX7_rings 349 = .ok (.goto 21, 3) := by decide +kernel
theorem dX7_rings_352 : decode cX7_rings 352 = .ok (.iload_n 1, 1) := by decide +kernel
theorem dX7_rings_353 : decode cX7_rings 353 = .ok (.iconst 1, 1) := by decide +kernel
theorem dX7_rings_354 : decode cX7_rings 354 = .ok (.if_icmp .ne 12, 3) := by decide +kernel
theorem dX7_rings_357 : decode cX7_rings 357 = .ok (.iload 4, 2) := by decide +kernel
theorem dX7_rings_359 : decode cX7_rings 359 = .ok (.iconst 5, 1) := by decide +kernel
theorem dX7_rings_360 : decode cX7_rings 360 = .ok (.idiv, 1) := by decide +kernel
theorem dX7_rings_361 : decode cX7_rings 361 = .ok (.iconst 5, 1) := by decide +kernel
theorem dX7_rings_362 : decode cX7_rings 362 = .ok (.irem, 1) := by decide +kernel
theorem dX7_rings_363 : decode cX7_rings 363 = .ok (.goto 7, 3) := by decide +kernel
theorem dX7_rings_366 : decode cX7_rings 366 = .ok (.iload 4, 2) := by decide +kernel
theorem dX7_rings_368 : decode cX7_rings 368 = .ok (.iconst 5, 1) := by decide +kernel
theorem dX7_rings_369 : decode cX7_rings 369 = .ok (.irem, 1) := by decide +kernel
theorem dX7_rings_370 : decode cX7_rings 370 = .ok (.ireturn, 1) := by decide +kernel
theorem dX7_owed_0 : decode cX7_owed 0 = .ok (.iload_n 1, 1) := by decide +kernel
theorem dX7_owed_1 : decode cX7_owed 1 = .ok (.invokestatic 97, 3) := by decide +kernel
theorem dX7_owed_4 : decode cX7_owed 4 = .ok (.ifCond .ne 5, 3) := by decide +kernel
theorem dX7_owed_7 : decode cX7_owed 7 = .ok (.iconst (-1), 1) := by decide +kernel
theorem dX7_owed_8 : decode cX7_owed 8 = .ok (.ireturn, 1) := by decide +kernel
theorem dX7_owed_9 : decode cX7_owed 9 = .ok (.iconst 0, 1) := by decide +kernel
theorem dX7_owed_10 : decode cX7_owed 10 = .ok (.istore_n 2, 1) := by decide +kernel
theorem dX7_owed_11 : decode cX7_owed 11 = .ok (.iconst 0, 1) := by decide +kernel
theorem dX7_owed_12 : decode cX7_owed 12 = .ok (.istore_n 3, 1) := by decide +kernel
theorem dX7_owed_13 : decode cX7_owed 13 = .ok (.iload_n 3, 1) := by decide +kernel
theorem dX7_owed_14 : decode cX7_owed 14 = .ok (.aload_n 0, 1) := by decide +kernel
theorem dX7_owed_15 : decode cX7_owed 15 = .ok (.getfield 64, 3) := by decide +kernel
theorem dX7_owed_18 : decode cX7_owed 18 = .ok (.if_icmp .ge 75, 3) := by decide +kernel
theorem dX7_owed_21 : decode cX7_owed 21 = .ok (.iconst 0, 1) := by decide +kernel
theorem dX7_owed_22 : decode cX7_owed 22 = .ok (.istore 4, 2) := by decide +kernel
theorem dX7_owed_24 : decode cX7_owed 24 = .ok (.iload 4, 2) := by decide +kernel
theorem dX7_owed_26 : decode cX7_owed 26 = .ok (.aload_n 0, 1) := by decide +kernel
theorem dX7_owed_27 : decode cX7_owed 27 = .ok (.getfield 7, 3) := by decide +kernel
theorem dX7_owed_30 : decode cX7_owed 30 = .ok (.bipush 40, 2) := by decide +kernel
theorem dX7_owed_32 : decode cX7_owed 32 = .ok (.iload_n 3, 1) := by decide +kernel
theorem dX7_owed_33 : decode cX7_owed 33 = .ok (.imul, 1) := by decide +kernel
theorem dX7_owed_34 : decode cX7_owed 34 = .ok (.iconst 3, 1) := by decide +kernel
theorem dX7_owed_35 : decode cX7_owed 35 = .ok (.iadd, 1) := by decide +kernel
theorem dX7_owed_36 : decode cX7_owed 36 = .ok (.iaload, 1) := by decide +kernel
theorem dX7_owed_37 : decode cX7_owed 37 = .ok (.if_icmp .ge 50, 3) := by decide +kernel
theorem dX7_owed_40 : decode cX7_owed 40 = .ok (.bipush 40, 2) := by decide +kernel
theorem dX7_owed_42 : decode cX7_owed 42 = .ok (.iload_n 3, 1) := by decide +kernel
theorem dX7_owed_43 : decode cX7_owed 43 = .ok (.imul, 1) := by decide +kernel
theorem dX7_owed_44 : decode cX7_owed 44 = .ok (.bipush 8, 2) := by decide +kernel
theorem dX7_owed_46 : decode cX7_owed 46 = .ok (.iadd, 1) := by decide +kernel
theorem dX7_owed_47 : decode cX7_owed 47 = .ok (.iconst 4, 1) := by decide +kernel
theorem dX7_owed_48 : decode cX7_owed 48 = .ok (.iload 4, 2) := by decide +kernel
theorem dX7_owed_50 : decode cX7_owed 50 = .ok (.imul, 1) := by decide +kernel
theorem dX7_owed_51 : decode cX7_owed 51 = .ok (.iadd, 1) := by decide +kernel
theorem dX7_owed_52 : decode cX7_owed 52 = .ok (.istore 5, 2) := by decide +kernel
theorem dX7_owed_54 : decode cX7_owed 54 = .ok (.iload_n 2, 1) := by decide +kernel
theorem dX7_owed_55 : decode cX7_owed 55 = .ok (.aload_n 0, 1) := by decide +kernel
theorem dX7_owed_56 : decode cX7_owed 56 = .ok (.getfield 7, 3) := by decide +kernel
theorem dX7_owed_59 : decode cX7_owed 59 = .ok (.iload 5, 2) := by decide +kernel
theorem dX7_owed_61 : decode cX7_owed 61 = .ok (.iaload, 1) := by decide +kernel
theorem dX7_owed_62 : decode cX7_owed 62 = .ok (.iload_n 1, 1) := by decide +kernel
theorem dX7_owed_63 : decode cX7_owed 63 = .ok (.if_icmp .ne 15, 3) := by decide +kernel
theorem dX7_owed_66 : decode cX7_owed 66 = .ok (.aload_n 0, 1) := by decide +kernel
theorem dX7_owed_67 : decode cX7_owed 67 = .ok (.getfield 7, 3) := by decide +kernel
theorem dX7_owed_70 : decode cX7_owed 70 = .ok (.iload 5, 2) := by decide +kernel
theorem dX7_owed_72 : decode cX7_owed 72 = .ok (.iconst 1, 1) := by decide +kernel
theorem dX7_owed_73 : decode cX7_owed 73 = .ok (.iadd, 1) := by decide +kernel
theorem dX7_owed_74 : decode cX7_owed 74 = .ok (.iaload, 1) := by decide +kernel
theorem dX7_owed_75 : decode cX7_owed 75 = .ok (.goto 4, 3) := by decide +kernel
theorem dX7_owed_78 : decode cX7_owed 78 = .ok (.iconst 0, 1) := by decide +kernel
theorem dX7_owed_79 : decode cX7_owed 79 = .ok (.iadd, 1) := by decide +kernel
theorem dX7_owed_80 : decode cX7_owed 80 = .ok (.istore_n 2, 1) := by decide +kernel
theorem dX7_owed_81 : decode cX7_owed 81 = .ok (.iinc 4 1, 3) := by decide +kernel
theorem dX7_owed_84 : decode cX7_owed 84 = .ok (.goto (-60), 3) := by decide +kernel
theorem dX7_owed_87 : decode cX7_owed 87 = .ok (.iinc 3 1, 3) := by decide +kernel
theorem dX7_owed_90 : decode cX7_owed 90 = .ok (.goto (-77), 3) := by decide +kernel
theorem dX7_owed_93 : decode cX7_owed 93 = .ok (.iload_n 2, 1) := by decide +kernel
theorem dX7_owed_94 : decode cX7_owed 94 = .ok (.ldc 90, 2) := by decide +kernel
theorem dX7_owed_96 : decode cX7_owed 96 = .ok (.if_icmp .le 8, 3) := by decide +kernel
theorem dX7_owed_99 : decode cX7_owed 99 = .ok (.ldc 90, 2) := by decide +kernel
theorem dX7_owed_101 : decode cX7_owed 101 = .ok (.goto 4, 3) := by decide +kernel
theorem dX7_owed_104 : decode cX7_owed 104 = .ok (.iload_n 2, 1) := by decide +kernel
theorem dX7_owed_105 : decode cX7_owed 105 = .ok (.ireturn, 1) := by decide +kernel
theorem dX7_turns_0 : decode cX7_turns 0 = .ok (.iload_n 1, 1) := by decide +kernel
theorem dX7_turns_1 : decode cX7_turns 1 = .ok (.iconst 2, 1) := by decide +kernel
theorem dX7_turns_2 : decode cX7_turns 2 = .ok (.isub, 1) := by decide +kernel
theorem dX7_turns_3 : decode cX7_turns 3 = .ok (.istore_n 2, 1) := by decide +kernel
theorem dX7_turns_4 : decode cX7_turns 4 = .ok (.iload_n 2, 1) := by decide +kernel
theorem dX7_turns_5 : decode cX7_turns 5 = .ok (.ifCond .lt 26, 3) := by decide +kernel
theorem dX7_turns_8 : decode cX7_turns 8 = .ok (.aload_n 0, 1) := by decide +kernel
theorem dX7_turns_9 : decode cX7_turns 9 = .ok (.getfield 40, 3) := by decide +kernel
theorem dX7_turns_12 : decode cX7_turns 12 = .ok (.iload_n 2, 1) := by decide +kernel
theorem dX7_turns_13 : decode cX7_turns 13 = .ok (.iaload, 1) := by decide +kernel
theorem dX7_turns_14 : decode cX7_turns 14 = .ok (.aload_n 0, 1) := by decide +kernel
theorem dX7_turns_15 : decode cX7_turns 15 = .ok (.getfield 40, 3) := by decide +kernel
theorem dX7_turns_18 : decode cX7_turns 18 = .ok (.iload_n 2, 1) := by decide +kernel
theorem dX7_turns_19 : decode cX7_turns 19 = .ok (.iconst 1, 1) := by decide +kernel
theorem dX7_turns_20 : decode cX7_turns 20 = .ok (.iadd, 1) := by decide +kernel
theorem dX7_turns_21 : decode cX7_turns 21 = .ok (.iaload, 1) := by decide +kernel
theorem dX7_turns_22 : decode cX7_turns 22 = .ok (.if_icmp .le 9, 3) := by decide +kernel
theorem dX7_turns_25 : decode cX7_turns 25 = .ok (.iinc 2 (-1), 3) := by decide +kernel
theorem dX7_turns_28 : decode cX7_turns 28 = .ok (.goto (-24), 3) := by decide +kernel
theorem dX7_turns_31 : decode cX7_turns 31 = .ok (.iload_n 2, 1) := by decide +kernel
theorem dX7_turns_32 : decode cX7_turns 32 = .ok (.ifCond .ge 5, 3) := by decide +kernel
theorem dX7_turns_35 : decode cX7_turns 35 = .ok (.iconst 0, 1) := by decide +kernel
theorem dX7_turns_36 : decode cX7_turns 36 = .ok (.ireturn, 1) := by decide +kernel
theorem dX7_turns_37 : decode cX7_turns 37 = .ok (.iload_n 1, 1) := by decide +kernel
theorem dX7_turns_38 : decode cX7_turns 38 = .ok (.iconst 1, 1) := by decide +kernel
theorem dX7_turns_39 : decode cX7_turns 39 = .ok (.isub, 1) := by decide +kernel
theorem dX7_turns_40 : decode cX7_turns 40 = .ok (.istore_n 3, 1) := by decide +kernel
theorem dX7_turns_41 : decode cX7_turns 41 = .ok (.aload_n 0, 1) := by decide +kernel
theorem dX7_turns_42 : decode cX7_turns 42 = .ok (.getfield 40, 3) := by decide +kernel
theorem dX7_turns_45 : decode cX7_turns 45 = .ok (.iload_n 3, 1) := by decide +kernel
theorem dX7_turns_46 : decode cX7_turns 46 = .ok (.iaload, 1) := by decide +kernel
theorem dX7_turns_47 : decode cX7_turns 47 = .ok (.aload_n 0, 1) := by decide +kernel
theorem dX7_turns_48 : decode cX7_turns 48 = .ok (.getfield 40, 3) := by decide +kernel
theorem dX7_turns_51 : decode cX7_turns 51 = .ok (.iload_n 2, 1) := by decide +kernel
theorem dX7_turns_52 : decode cX7_turns 52 = .ok (.iaload, 1) := by decide +kernel
theorem dX7_turns_53 : decode cX7_turns 53 = .ok (.if_icmp .ge 9, 3) := by decide +kernel
theorem dX7_turns_56 : decode cX7_turns 56 = .ok (.iinc 3 (-1), 3) := by decide +kernel
theorem dX7_turns_59 : decode cX7_turns 59 = .ok (.goto (-18), 3) := by decide +kernel
theorem dX7_turns_62 : decode cX7_turns 62 = .ok (.aload_n 0, 1) := by decide +kernel
theorem dX7_turns_63 : decode cX7_turns 63 = .ok (.getfield 40, 3) := by decide +kernel
theorem dX7_turns_66 : decode cX7_turns 66 = .ok (.iload_n 2, 1) := by decide +kernel
theorem dX7_turns_67 : decode cX7_turns 67 = .ok (.iaload, 1) := by decide +kernel
theorem dX7_turns_68 : decode cX7_turns 68 = .ok (.istore 4, 2) := by decide +kernel
theorem dX7_turns_70 : decode cX7_turns 70 = .ok (.aload_n 0, 1) := by decide +kernel
theorem dX7_turns_71 : decode cX7_turns 71 = .ok (.getfield 40, 3) := by decide +kernel
theorem dX7_turns_74 : decode cX7_turns 74 = .ok (.iload_n 2, 1) := by decide +kernel
theorem dX7_turns_75 : decode cX7_turns 75 = .ok (.aload_n 0, 1) := by decide +kernel
theorem dX7_turns_76 : decode cX7_turns 76 = .ok (.getfield 40, 3) := by decide +kernel
theorem dX7_turns_79 : decode cX7_turns 79 = .ok (.iload_n 3, 1) := by decide +kernel
theorem dX7_turns_80 : decode cX7_turns 80 = .ok (.iaload, 1) := by decide +kernel
theorem dX7_turns_81 : decode cX7_turns 81 = .ok (.iastore, 1) := by decide +kernel
theorem dX7_turns_82 : decode cX7_turns 82 = .ok (.aload_n 0, 1) := by decide +kernel
theorem dX7_turns_83 : decode cX7_turns 83 = .ok (.getfield 40, 3) := by decide +kernel
theorem dX7_turns_86 : decode cX7_turns 86 = .ok (.iload_n 3, 1) := by decide +kernel
theorem dX7_turns_87 : decode cX7_turns 87 = .ok (.iload 4, 2) := by decide +kernel
theorem dX7_turns_89 : decode cX7_turns 89 = .ok (.iastore, 1) := by decide +kernel
theorem dX7_turns_90 : decode cX7_turns 90 = .ok (.iload_n 2, 1) := by decide +kernel
theorem dX7_turns_91 : decode cX7_turns 91 = .ok (.iconst 1, 1) := by decide +kernel
theorem dX7_turns_92 : decode cX7_turns 92 = .ok (.iadd, 1) := by decide +kernel
theorem dX7_turns_93 : decode cX7_turns 93 = .ok (.istore 5, 2) := by decide +kernel
theorem dX7_turns_95 : decode cX7_turns 95 = .ok (.iload_n 1, 1) := by decide +kernel
theorem dX7_turns_96 : decode cX7_turns 96 = .ok (.iconst 1, 1) := by decide +kernel
theorem dX7_turns_97 : decode cX7_turns 97 = .ok (.isub, 1) := by decide +kernel
theorem dX7_turns_98 : decode cX7_turns 98 = .ok (.istore 6, 2) := by decide +kernel
theorem dX7_turns_100 : decode cX7_turns 100 = .ok (.iload 5, 2) := by decide +kernel
theorem dX7_turns_102 : decode cX7_turns 102 = .ok (.iload 6, 2) := by decide +kernel
theorem dX7_turns_104 : decode cX7_turns 104 = .ok (.if_icmp .ge 44, 3) := by decide +kernel
theorem dX7_turns_107 : decode cX7_turns 107 = .ok (.aload_n 0, 1) := by decide +kernel
theorem dX7_turns_108 : decode cX7_turns 108 = .ok (.getfield 40, 3) := by decide +kernel
theorem dX7_turns_111 : decode cX7_turns 111 = .ok (.iload 5, 2) := by decide +kernel
theorem dX7_turns_113 : decode cX7_turns 113 = .ok (.iaload, 1) := by decide +kernel
theorem dX7_turns_114 : decode cX7_turns 114 = .ok (.istore 4, 2) := by decide +kernel
theorem dX7_turns_116 : decode cX7_turns 116 = .ok (.aload_n 0, 1) := by decide +kernel
theorem dX7_turns_117 : decode cX7_turns 117 = .ok (.getfield 40, 3) := by decide +kernel
theorem dX7_turns_120 : decode cX7_turns 120 = .ok (.iload 5, 2) := by decide +kernel
theorem dX7_turns_122 : decode cX7_turns 122 = .ok (.aload_n 0, 1) := by decide +kernel
theorem dX7_turns_123 : decode cX7_turns 123 = .ok (.getfield 40, 3) := by decide +kernel
theorem dX7_turns_126 : decode cX7_turns 126 = .ok (.iload 6, 2) := by decide +kernel
theorem dX7_turns_128 : decode cX7_turns 128 = .ok (.iaload, 1) := by decide +kernel
theorem dX7_turns_129 : decode cX7_turns 129 = .ok (.iastore, 1) := by decide +kernel
theorem dX7_turns_130 : decode cX7_turns 130 = .ok (.aload_n 0, 1) := by decide +kernel
theorem dX7_turns_131 : decode cX7_turns 131 = .ok (.getfield 40, 3) := by decide +kernel
theorem dX7_turns_134 : decode cX7_turns 134 = .ok (.iload 6, 2) := by decide +kernel
theorem dX7_turns_136 : decode cX7_turns 136 = .ok (.iload 4, 2) := by decide +kernel
theorem dX7_turns_138 : decode cX7_turns 138 = .ok (.iastore, 1) := by decide +kernel
theorem dX7_turns_139 : decode cX7_turns 139 = .ok (.iinc 5 1, 3) := by decide +kernel
theorem dX7_turns_142 : decode cX7_turns 142 = .ok (.iinc 6 (-1), 3) := by decide +kernel
theorem dX7_turns_145 : decode cX7_turns 145 = .ok (.goto (-45), 3) := by decide +kernel
theorem dX7_turns_148 : decode cX7_turns 148 = .ok (.iconst 1, 1) := by decide +kernel
theorem dX7_turns_149 : decode cX7_turns 149 = .ok (.ireturn, 1) := by decide +kernel
theorem dX7_freeBy_0 : decode cX7_freeBy 0 = .ok (.bipush 40, 2) := by decide +kernel
theorem dX7_freeBy_2 : decode cX7_freeBy 2 = .ok (.iload_n 1, 1) := by decide +kernel
theorem dX7_freeBy_3 : decode cX7_freeBy 3 = .ok (.imul, 1) := by decide +kernel
theorem dX7_freeBy_4 : decode cX7_freeBy 4 = .ok (.istore_n 3, 1) := by decide +kernel
theorem dX7_freeBy_5 : decode cX7_freeBy 5 = .ok (.iconst 0, 1) := by decide +kernel
theorem dX7_freeBy_6 : decode cX7_freeBy 6 = .ok (.istore 4, 2) := by decide +kernel
theorem dX7_freeBy_8 : decode cX7_freeBy 8 = .ok (.iload 4, 2) := by decide +kernel
theorem dX7_freeBy_10 : decode cX7_freeBy 10 = .ok (.bipush 40, 2) := by decide +kernel
theorem dX7_freeBy_12 : decode cX7_freeBy 12 = .ok (.if_icmp .ge 25, 3) := by decide +kernel
theorem dX7_freeBy_15 : decode cX7_freeBy 15 = .ok (.aload_n 0, 1) := by decide +kernel
theorem dX7_freeBy_16 : decode cX7_freeBy 16 = .ok (.getfield 13, 3) := by decide +kernel
theorem dX7_freeBy_19 : decode cX7_freeBy 19 = .ok (.iload_n 3, 1) := by decide +kernel
theorem dX7_freeBy_20 : decode cX7_freeBy 20 = .ok (.iload 4, 2) := by decide +kernel
theorem dX7_freeBy_22 : decode cX7_freeBy 22 = .ok (.iadd, 1) := by decide +kernel
theorem dX7_freeBy_23 : decode cX7_freeBy 23 = .ok (.aload_n 0, 1) := by decide +kernel
theorem dX7_freeBy_24 : decode cX7_freeBy 24 = .ok (.getfield 46, 3) := by decide +kernel
theorem dX7_freeBy_27 : decode cX7_freeBy 27 = .ok (.iload 4, 2) := by decide +kernel
theorem dX7_freeBy_29 : decode cX7_freeBy 29 = .ok (.iaload, 1) := by decide +kernel
theorem dX7_freeBy_30 : decode cX7_freeBy 30 = .ok (.iastore, 1) := by decide +kernel
theorem dX7_freeBy_31 : decode cX7_freeBy 31 = .ok (.iinc 4 1, 3) := by decide +kernel
theorem dX7_freeBy_34 : decode cX7_freeBy 34 = .ok (.goto (-26), 3) := by decide +kernel
theorem dX7_freeBy_37 : decode cX7_freeBy 37 = .ok (.aload_n 0, 1) := by decide +kernel
theorem dX7_freeBy_38 : decode cX7_freeBy 38 = .ok (.aload_n 0, 1) := by decide +kernel
theorem dX7_freeBy_39 : decode cX7_freeBy 39 = .ok (.getfield 13, 3) := by decide +kernel
theorem dX7_freeBy_42 : decode cX7_freeBy 42 = .ok (.putfield 16, 3) := by decide +kernel
theorem dX7_freeBy_45 : decode cX7_freeBy 45 = .ok (.aload_n 0, 1) := by decide +kernel
theorem dX7_freeBy_46 : decode cX7_freeBy 46 = .ok (.iconst 0, 1) := by decide +kernel
theorem dX7_freeBy_47 : decode cX7_freeBy 47 = .ok (.putfield 192, 3) := by decide +kernel
theorem dX7_freeBy_50 : decode cX7_freeBy 50 = .ok (.iconst 0, 1) := by decide +kernel
theorem dX7_freeBy_51 : decode cX7_freeBy 51 = .ok (.istore 4, 2) := by decide +kernel
theorem dX7_freeBy_53 : decode cX7_freeBy 53 = .ok (.iconst 0, 1) := by decide +kernel
theorem dX7_freeBy_54 : decode cX7_freeBy 54 = .ok (.istore 5, 2) := by decide +kernel
theorem dX7_freeBy_56 : decode cX7_freeBy 56 = .ok (.iload 5, 2) := by decide +kernel
theorem dX7_freeBy_58 : decode cX7_freeBy 58 = .ok (.sipush 360, 3) := by decide +kernel
theorem dX7_freeBy_61 : decode cX7_freeBy 61 = .ok (.if_icmp .gt 182, 3) := by decide +kernel
theorem dX7_freeBy_64 : decode cX7_freeBy 64 = .ok (.iload 4, 2) := by decide +kernel
theorem dX7_freeBy_66 : decode cX7_freeBy 66 = .ok (.iload_n 2, 1) := by decide +kernel
theorem dX7_freeBy_67 : decode cX7_freeBy 67 = .ok (.if_icmp .ge 7, 3) := by decide +kernel
theorem dX7_freeBy_70 : decode cX7_freeBy 70 = .ok (.iconst 1, 1) := by decide +kernel
theorem dX7_freeBy_71 : decode cX7_freeBy 71 = .ok (.goto 4, 3) := by decide +kernel
theorem dX7_freeBy_74 : decode cX7_freeBy 74 = .ok (.iconst 0, 1) := by decide +kernel
theorem dX7_freeBy_75 : decode cX7_freeBy 75 = .ok (.istore 6, 2) := by decide +kernel
theorem dX7_freeBy_77 : decode cX7_freeBy 77 = .ok (.iload 6, 2) := by decide +kernel
theorem dX7_freeBy_79 : decode cX7_freeBy 79 = .ok (.ifCond .eq 144, 3) := by decide +kernel
theorem dX7_freeBy_82 : decode cX7_freeBy 82 = .ok (.aload_n 0, 1) := by decide +kernel
theorem dX7_freeBy_83 : decode cX7_freeBy 83 = .ok (.getfield 40, 3) := by decide +kernel
theorem dX7_freeBy_86 : decode cX7_freeBy 86 = .ok (.iload 4, 2) := by decide +kernel
theorem dX7_freeBy_88 : decode cX7_freeBy 88 = .ok (.iaload, 1) := by decide +kernel
theorem dX7_freeBy_89 : decode cX7_freeBy 89 = .ok (.istore 7, 2) := by decide +kernel
theorem dX7_freeBy_91 : decode cX7_freeBy 91 = .ok (.iconst 0, 1) := by decide +kernel
theorem dX7_freeBy_92 : decode cX7_freeBy 92 = .ok (.istore 8, 2) := by decide +kernel
theorem dX7_freeBy_94 : decode cX7_freeBy 94 = .ok (.iload 8, 2) := by decide +kernel
theorem dX7_freeBy_96 : decode cX7_freeBy 96 = .ok (.iload 4, 2) := by decide +kernel
theorem dX7_freeBy_98 : decode cX7_freeBy 98 = .ok (.if_icmp .ge 36, 3) := by decide +kernel
theorem dX7_freeBy_101 : decode cX7_freeBy 101 = .ok (.iload 7, 2) := by decide +kernel
theorem dX7_freeBy_103 : decode cX7_freeBy 103 = .ok (.aload_n 0, 1) := by decide +kernel
theorem dX7_freeBy_104 : decode cX7_freeBy 104 = .ok (.getfield 40, 3) := by decide +kernel
theorem dX7_freeBy_107 : decode cX7_freeBy 107 = .ok (.iload 8, 2) := by decide +kernel
theorem dX7_freeBy_109 : decode cX7_freeBy 109 = .ok (.iaload, 1) := by decide +kernel
theorem dX7_freeBy_110 : decode cX7_freeBy 110 = .ok (.aload_n 0, 1) := by decide +kernel
theorem dX7_freeBy_111 : decode cX7_freeBy 111 = .ok (.getfield 40, 3) := by decide +kernel
theorem dX7_freeBy_114 : decode cX7_freeBy 114 = .ok (.iload 4, 2) := by decide +kernel
theorem dX7_freeBy_116 : decode cX7_freeBy 116 = .ok (.iaload, 1) := by decide +kernel
theorem dX7_freeBy_117 : decode cX7_freeBy 117 = .ok (.if_icmp .ge 7, 3) := by decide +kernel
theorem dX7_freeBy_120 : decode cX7_freeBy 120 = .ok (.iconst 1, 1) := by decide +kernel
theorem dX7_freeBy_121 : decode cX7_freeBy 121 = .ok (.goto 4, 3) := by decide +kernel
theorem dX7_freeBy_124 : decode cX7_freeBy 124 = .ok (.iconst 0, 1) := by decide +kernel
theorem dX7_freeBy_125 : decode cX7_freeBy 125 = .ok (.isub, 1) := by decide +kernel
theorem dX7_freeBy_126 : decode cX7_freeBy 126 = .ok (.istore 7, 2) := by decide +kernel
theorem dX7_freeBy_128 : decode cX7_freeBy 128 = .ok (.iinc 8 1, 3) := by decide +kernel
theorem dX7_freeBy_131 : decode cX7_freeBy 131 = .ok (.goto (-37), 3) := by decide +kernel
theorem dX7_freeBy_134 : decode cX7_freeBy 134 = .ok (.aload_n 0, 1) := by decide +kernel
theorem dX7_freeBy_135 : decode cX7_freeBy 135 = .ok (.getfield 13, 3) := by decide +kernel
theorem dX7_freeBy_138 : decode cX7_freeBy 138 = .ok (.iload_n 3, 1) := by decide +kernel
theorem dX7_freeBy_139 : decode cX7_freeBy 139 = .ok (.bipush 8, 2) := by decide +kernel
theorem dX7_freeBy_141 : decode cX7_freeBy 141 = .ok (.iadd, 1) := by decide +kernel
theorem dX7_freeBy_142 : decode cX7_freeBy 142 = .ok (.iconst 4, 1) := by decide +kernel
theorem dX7_freeBy_143 : decode cX7_freeBy 143 = .ok (.iload 7, 2) := by decide +kernel
theorem dX7_freeBy_145 : decode cX7_freeBy 145 = .ok (.imul, 1) := by decide +kernel
theorem dX7_freeBy_146 : decode cX7_freeBy 146 = .ok (.iadd, 1) := by decide +kernel
theorem dX7_freeBy_147 : decode cX7_freeBy 147 = .ok (.iconst 1, 1) := by decide +kernel
theorem dX7_freeBy_148 : decode cX7_freeBy 148 = .ok (.iadd, 1) := by decide +kernel
theorem dX7_freeBy_149 : decode cX7_freeBy 149 = .ok (.iaload, 1) := by decide +kernel
theorem dX7_freeBy_150 : decode cX7_freeBy 150 = .ok (.istore 8, 2) := by decide +kernel
theorem dX7_freeBy_152 : decode cX7_freeBy 152 = .ok (.aload_n 0, 1) := by decide +kernel
theorem dX7_freeBy_153 : decode cX7_freeBy 153 = .ok (.getfield 13, 3) := by decide +kernel
theorem dX7_freeBy_156 : decode cX7_freeBy 156 = .ok (.iload_n 3, 1) := by decide +kernel
theorem dX7_freeBy_157 : decode cX7_freeBy 157 = .ok (.iaload, 1) := by decide +kernel
theorem dX7_freeBy_158 : decode cX7_freeBy 158 = .ok (.iload 8, 2) := by decide +kernel
theorem dX7_freeBy_160 : decode cX7_freeBy 160 = .ok (.if_icmp .lt 7, 3) := by decide +kernel
theorem dX7_freeBy_163 : decode cX7_freeBy 163 = .ok (.iconst 1, 1) := by decide +kernel
theorem dX7_freeBy_164 : decode cX7_freeBy 164 = .ok (.goto 4, 3) := by decide +kernel
theorem dX7_freeBy_167 : decode cX7_freeBy 167 = .ok (.iconst 0, 1) := by decide +kernel
theorem dX7_freeBy_168 : decode cX7_freeBy 168 = .ok (.istore 6, 2) := by decide +kernel
theorem dX7_freeBy_170 : decode cX7_freeBy 170 = .ok (.iload 6, 2) := by decide +kernel
theorem dX7_freeBy_172 : decode cX7_freeBy 172 = .ok (.ifCond .eq 48, 3) := by decide +kernel
theorem dX7_freeBy_175 : decode cX7_freeBy 175 = .ok (.aload_n 0, 1) := by decide +kernel
theorem dX7_freeBy_176 : decode cX7_freeBy 176 = .ok (.getfield 13, 3) := by decide +kernel
theorem dX7_freeBy_179 : decode cX7_freeBy 179 = .ok (.iload_n 3, 1) := by decide +kernel
theorem dX7_freeBy_180 : decode cX7_freeBy 180 = .ok (.dup2, 1) := by decide +kernel
theorem dX7_freeBy_181 : decode cX7_freeBy 181 = .ok (.iaload, 1) := by decide +kernel
theorem dX7_freeBy_182 : decode cX7_freeBy 182 = .ok (.iload 8, 2) := by decide +kernel
theorem dX7_freeBy_184 : decode cX7_freeBy 184 = .ok (.isub, 1) := by decide +kernel
theorem dX7_freeBy_185 : decode cX7_freeBy 185 = .ok (.iastore, 1) := by decide +kernel
theorem dX7_freeBy_186 : decode cX7_freeBy 186 = .ok (.aload_n 0, 1) := by decide +kernel
theorem dX7_freeBy_187 : decode cX7_freeBy 187 = .ok (.dup, 1) := by decide +kernel
theorem dX7_freeBy_188 : decode cX7_freeBy 188 = .ok (.getfield 192, 3) := by decide +kernel
theorem dX7_freeBy_191 : decode cX7_freeBy 191 = .ok (.iload 8, 2) := by decide +kernel
theorem dX7_freeBy_193 : decode cX7_freeBy 193 = .ok (.iadd, 1) := by decide +kernel
theorem dX7_freeBy_194 : decode cX7_freeBy 194 = .ok (.putfield 192, 3) := by decide +kernel
theorem dX7_freeBy_197 : decode cX7_freeBy 197 = .ok (.aload_n 0, 1) := by decide +kernel
theorem dX7_freeBy_198 : decode cX7_freeBy 198 = .ok (.iload_n 1, 1) := by decide +kernel
theorem dX7_freeBy_199 : decode cX7_freeBy 199 = .ok (.iload 7, 2) := by decide +kernel
theorem dX7_freeBy_201 : decode cX7_freeBy 201 = .ok (.invokevirtual 173, 3) := by decide +kernel
theorem dX7_freeBy_204 : decode cX7_freeBy 204 = .ok (.iinc 4 1, 3) := by decide +kernel
theorem dX7_freeBy_207 : decode cX7_freeBy 207 = .ok (.iload 4, 2) := by decide +kernel
theorem dX7_freeBy_209 : decode cX7_freeBy 209 = .ok (.iload_n 2, 1) := by decide +kernel
theorem dX7_freeBy_210 : decode cX7_freeBy 210 = .ok (.if_icmp .ge 7, 3) := by decide +kernel
theorem dX7_freeBy_213 : decode cX7_freeBy 213 = .ok (.iconst 1, 1) := by decide +kernel
theorem dX7_freeBy_214 : decode cX7_freeBy 214 = .ok (.goto 4, 3) := by decide +kernel
theorem dX7_freeBy_217 : decode cX7_freeBy 217 = .ok (.iconst 0, 1) := by decide +kernel
theorem dX7_freeBy_218 : decode cX7_freeBy 218 = .ok (.istore 6, 2) := by decide +kernel
theorem dX7_freeBy_220 : decode cX7_freeBy 220 = .ok (.goto (-143), 3) := by decide +kernel
theorem dX7_freeBy_223 : decode cX7_freeBy 223 = .ok (.iload 4, 2) := by decide +kernel
theorem dX7_freeBy_225 : decode cX7_freeBy 225 = .ok (.iload_n 2, 1) := by decide +kernel
theorem dX7_freeBy_226 : decode cX7_freeBy 226 = .ok (.if_icmp .ne 6, 3) := by decide +kernel
theorem dX7_freeBy_229 : decode cX7_freeBy 229 = .ok (.iload 5, 2) := by decide +kernel
theorem dX7_freeBy_231 : decode cX7_freeBy 231 = .ok (.ireturn, 1) := by decide +kernel
theorem dX7_freeBy_232 : decode cX7_freeBy 232 = .ok (.aload_n 0, 1) := by decide +kernel
theorem dX7_freeBy_233 : decode cX7_freeBy 233 = .ok (.iload_n 1, 1) := by decide +kernel
theorem dX7_freeBy_234 : decode cX7_freeBy 234 = .ok (.invokevirtual 158, 3) := by decide +kernel
theorem dX7_freeBy_237 : decode cX7_freeBy 237 = .ok (.iinc 5 1, 3) := by decide +kernel
theorem dX7_freeBy_240 : decode cX7_freeBy 240 = .ok (.goto (-184), 3) := by decide +kernel
theorem dX7_freeBy_243 : decode cX7_freeBy 243 = .ok (.sipush 361, 3) := by decide +kernel
theorem dX7_freeBy_246 : decode cX7_freeBy 246 = .ok (.ireturn, 1) := by decide +kernel
theorem dX7_starts_0 : decode cX7_starts 0 = .ok (.iconst 0, 1) := by decide +kernel
theorem dX7_starts_1 : decode cX7_starts 1 = .ok (.istore_n 2, 1) := by decide +kernel
theorem dX7_starts_2 : decode cX7_starts 2 = .ok (.iload_n 2, 1) := by decide +kernel
theorem dX7_starts_3 : decode cX7_starts 3 = .ok (.bipush 40, 2) := by decide +kernel
theorem dX7_starts_5 : decode cX7_starts 5 = .ok (.if_icmp .ge 26, 3) := by decide +kernel
theorem dX7_starts_8 : decode cX7_starts 8 = .ok (.aload_n 0, 1) := by decide +kernel
theorem dX7_starts_9 : decode cX7_starts 9 = .ok (.getfield 46, 3) := by decide +kernel
theorem dX7_starts_12 : decode cX7_starts 12 = .ok (.iload_n 2, 1) := by decide +kernel
theorem dX7_starts_13 : decode cX7_starts 13 = .ok (.aload_n 0, 1) := by decide +kernel
theorem dX7_starts_14 : decode cX7_starts 14 = .ok (.getfield 7, 3) := by decide +kernel
theorem dX7_starts_17 : decode cX7_starts 17 = .ok (.bipush 40, 2) := by decide +kernel
theorem dX7_starts_19 : decode cX7_starts 19 = .ok (.iload_n 1, 1) := by decide +kernel
theorem dX7_starts_20 : decode cX7_starts 20 = .ok (.imul, 1) := by decide +kernel
theorem dX7_starts_21 : decode cX7_starts 21 = .ok (.iload_n 2, 1) := by decide +kernel
theorem dX7_starts_22 : decode cX7_starts 22 = .ok (.iadd, 1) := by decide +kernel
theorem dX7_starts_23 : decode cX7_starts 23 = .ok (.iaload, 1) := by decide +kernel
theorem dX7_starts_24 : decode cX7_starts 24 = .ok (.iastore, 1) := by decide +kernel
theorem dX7_starts_25 : decode cX7_starts 25 = .ok (.iinc 2 1, 3) := by decide +kernel
theorem dX7_starts_28 : decode cX7_starts 28 = .ok (.goto (-26), 3) := by decide +kernel
theorem dX7_starts_31 : decode cX7_starts 31 = .ok (.return_, 1) := by decide +kernel
theorem dX7_isLawful_0 : decode cX7_isLawful 0 = .ok (.iconst 1, 1) := by decide +kernel
theorem dX7_isLawful_1 : decode cX7_isLawful 1 = .ok (.istore_n 2, 1) := by decide +kernel
theorem dX7_isLawful_2 : decode cX7_isLawful 2 = .ok (.iconst 0, 1) := by decide +kernel
theorem dX7_isLawful_3 : decode cX7_isLawful 3 = .ok (.istore_n 3, 1) := by decide +kernel
theorem dX7_isLawful_4 : decode cX7_isLawful 4 = .ok (.iload_n 3, 1) := by decide +kernel
theorem dX7_isLawful_5 : decode cX7_isLawful 5 = .ok (.iload_n 1, 1) := by decide +kernel
theorem dX7_isLawful_6 : decode cX7_isLawful 6 = .ok (.if_icmp .ge 84, 3) := by decide +kernel
theorem dX7_isLawful_9 : decode cX7_isLawful 9 = .ok (.iload_n 2, 1) := by decide +kernel
theorem dX7_isLawful_10 : decode cX7_isLawful 10 = .ok (.ifCond .eq 72, 3) := by decide +kernel
theorem dX7_isLawful_13 : decode cX7_isLawful 13 = .ok (.aload_n 0, 1) := by decide +kernel
theorem dX7_isLawful_14 : decode cX7_isLawful 14 = .ok (.getfield 25, 3) := by decide +kernel
theorem dX7_isLawful_17 : decode cX7_isLawful 17 = .ok (.iconst 0, 1) := by decide +kernel
theorem dX7_isLawful_18 : decode cX7_isLawful 18 = .ok (.iaload, 1) := by decide +kernel
theorem dX7_isLawful_19 : decode cX7_isLawful 19 = .ok (.ifCond .ne 20, 3) := by decide +kernel
theorem dX7_isLawful_22 : decode cX7_isLawful 22 = .ok (.aload_n 0, 1) := by decide +kernel
theorem dX7_isLawful_23 : decode cX7_isLawful 23 = .ok (.getfield 40, 3) := by decide +kernel
theorem dX7_isLawful_26 : decode cX7_isLawful 26 = .ok (.iload_n 3, 1) := by decide +kernel
theorem dX7_isLawful_27 : decode cX7_isLawful 27 = .ok (.iaload, 1) := by decide +kernel
theorem dX7_isLawful_28 : decode cX7_isLawful 28 = .ok (.iload_n 1, 1) := by decide +kernel
theorem dX7_isLawful_29 : decode cX7_isLawful 29 = .ok (.iconst 1, 1) := by decide +kernel
theorem dX7_isLawful_30 : decode cX7_isLawful 30 = .ok (.isub, 1) := by decide +kernel
theorem dX7_isLawful_31 : decode cX7_isLawful 31 = .ok (.iload_n 3, 1) := by decide +kernel
theorem dX7_isLawful_32 : decode cX7_isLawful 32 = .ok (.isub, 1) := by decide +kernel
theorem dX7_isLawful_33 : decode cX7_isLawful 33 = .ok (.if_icmp .ne 49, 3) := by decide +kernel
theorem dX7_isLawful_36 : decode cX7_isLawful 36 = .ok (.goto 42, 3) := by decide +kernel
theorem dX7_isLawful_39 : decode cX7_isLawful 39 = .ok (.aload_n 0, 1) := by decide +kernel
theorem dX7_isLawful_40 : decode cX7_isLawful 40 = .ok (.getfield 25, 3) := by decide +kernel
theorem dX7_isLawful_43 : decode cX7_isLawful 43 = .ok (.iconst 0, 1) := by decide +kernel
theorem dX7_isLawful_44 : decode cX7_isLawful 44 = .ok (.iaload, 1) := by decide +kernel
theorem dX7_isLawful_45 : decode cX7_isLawful 45 = .ok (.iconst 1, 1) := by decide +kernel
theorem dX7_isLawful_46 : decode cX7_isLawful 46 = .ok (.if_icmp .ne 16, 3) := by decide +kernel
theorem dX7_isLawful_49 : decode cX7_isLawful 49 = .ok (.aload_n 0, 1) := by decide +kernel
theorem dX7_isLawful_50 : decode cX7_isLawful 50 = .ok (.getfield 40, 3) := by decide +kernel
theorem dX7_isLawful_53 : decode cX7_isLawful 53 = .ok (.iload_n 3, 1) := by decide +kernel
theorem dX7_isLawful_54 : decode cX7_isLawful 54 = .ok (.iaload, 1) := by decide +kernel
theorem dX7_isLawful_55 : decode cX7_isLawful 55 = .ok (.iload_n 3, 1) := by decide +kernel
theorem dX7_isLawful_56 : decode cX7_isLawful 56 = .ok (.if_icmp .ne 26, 3) := by decide +kernel
theorem dX7_isLawful_59 : decode cX7_isLawful 59 = .ok (.goto 19, 3) := by decide +kernel
theorem dX7_isLawful_62 : decode cX7_isLawful 62 = .ok (.aload_n 0, 1) := by decide +kernel
theorem dX7_isLawful_63 : decode cX7_isLawful 63 = .ok (.getfield 40, 3) := by decide +kernel
theorem dX7_isLawful_66 : decode cX7_isLawful 66 = .ok (.iload_n 3, 1) := by decide +kernel
theorem dX7_isLawful_67 : decode cX7_isLawful 67 = .ok (.iaload, 1) := by decide +kernel
theorem dX7_isLawful_68 : decode cX7_isLawful 68 = .ok (.ifCond .gt 10, 3) := by decide +kernel
theorem dX7_isLawful_71 : decode cX7_isLawful 71 = .ok (.iload_n 3, 1) := by decide +kernel
theorem dX7_isLawful_72 : decode cX7_isLawful 72 = .ok (.iload_n 1, 1) := by decide +kernel
theorem dX7_isLawful_73 : decode cX7_isLawful 73 = .ok (.iconst 1, 1) := by decide +kernel
theorem dX7_isLawful_74 : decode cX7_isLawful 74 = .ok (.isub, 1) := by decide +kernel
theorem dX7_isLawful_75 : decode cX7_isLawful 75 = .ok (.if_icmp .ne 7, 3) := by decide +kernel
theorem dX7_isLawful_78 : decode cX7_isLawful 78 = .ok (.iconst 1, 1) := by decide +kernel
theorem dX7_isLawful_79 : decode cX7_isLawful 79 = .ok (.goto 4, 3) := by decide +kernel
theorem dX7_isLawful_82 : decode cX7_isLawful 82 = .ok (.iconst 0, 1) := by decide +kernel
theorem dX7_isLawful_83 : decode cX7_isLawful 83 = .ok (.istore_n 2, 1) := by decide +kernel
theorem dX7_isLawful_84 : decode cX7_isLawful 84 = .ok (.iinc 3 1, 3) := by decide +kernel
theorem dX7_isLawful_87 : decode cX7_isLawful 87 = .ok (.goto (-83), 3) := by decide +kernel
theorem dX7_isLawful_90 : decode cX7_isLawful 90 = .ok (.iload_n 2, 1) := by decide +kernel
theorem dX7_isLawful_91 : decode cX7_isLawful 91 = .ok (.ireturn, 1) := by decide +kernel
theorem dX7_bestFree_0 : decode cX7_bestFree 0 = .ok (.aload_n 0, 1) := by decide +kernel
theorem dX7_bestFree_1 : decode cX7_bestFree 1 = .ok (.getfield 46, 3) := by decide +kernel
theorem dX7_bestFree_4 : decode cX7_bestFree 4 = .ok (.iconst 3, 1) := by decide +kernel
theorem dX7_bestFree_5 : decode cX7_bestFree 5 = .ok (.iaload, 1) := by decide +kernel
theorem dX7_bestFree_6 : decode cX7_bestFree 6 = .ok (.istore_n 2, 1) := by decide +kernel
theorem dX7_bestFree_7 : decode cX7_bestFree 7 = .ok (.sipush 361, 3) := by decide +kernel
theorem dX7_bestFree_10 : decode cX7_bestFree 10 = .ok (.istore_n 3, 1) := by decide +kernel
theorem dX7_bestFree_11 : decode cX7_bestFree 11 = .ok (.iconst 0, 1) := by decide +kernel
theorem dX7_bestFree_12 : decode cX7_bestFree 12 = .ok (.istore 4, 2) := by decide +kernel
theorem dX7_bestFree_14 : decode cX7_bestFree 14 = .ok (.iload 4, 2) := by decide +kernel
theorem dX7_bestFree_16 : decode cX7_bestFree 16 = .ok (.iload_n 2, 1) := by decide +kernel
theorem dX7_bestFree_17 : decode cX7_bestFree 17 = .ok (.if_icmp .ge 18, 3) := by decide +kernel
theorem dX7_bestFree_20 : decode cX7_bestFree 20 = .ok (.aload_n 0, 1) := by decide +kernel
theorem dX7_bestFree_21 : decode cX7_bestFree 21 = .ok (.getfield 40, 3) := by decide +kernel
theorem dX7_bestFree_24 : decode cX7_bestFree 24 = .ok (.iload 4, 2) := by decide +kernel
theorem dX7_bestFree_26 : decode cX7_bestFree 26 = .ok (.iload 4, 2) := by decide +kernel
theorem dX7_bestFree_28 : decode cX7_bestFree 28 = .ok (.iastore, 1) := by decide +kernel
theorem dX7_bestFree_29 : decode cX7_bestFree 29 = .ok (.iinc 4 1, 3) := by decide +kernel
theorem dX7_bestFree_32 : decode cX7_bestFree 32 = .ok (.goto (-18), 3) := by decide +kernel
theorem dX7_bestFree_35 : decode cX7_bestFree 35 = .ok (.iconst 1, 1) := by decide +kernel
theorem dX7_bestFree_36 : decode cX7_bestFree 36 = .ok (.istore 4, 2) := by decide +kernel
theorem dX7_bestFree_38 : decode cX7_bestFree 38 = .ok (.iload 4, 2) := by decide +kernel
theorem dX7_bestFree_40 : decode cX7_bestFree 40 = .ok (.ifCond .eq 118, 3) := by decide +kernel
theorem dX7_bestFree_43 : decode cX7_bestFree 43 = .ok (.aload_n 0, 1) := by decide +kernel
theorem dX7_bestFree_44 : decode cX7_bestFree 44 = .ok (.iload_n 2, 1) := by decide +kernel
theorem dX7_bestFree_45 : decode cX7_bestFree 45 = .ok (.invokevirtual 195, 3) := by decide +kernel
theorem dX7_bestFree_48 : decode cX7_bestFree 48 = .ok (.ifCond .eq 12, 3) := by decide +kernel
theorem dX7_bestFree_51 : decode cX7_bestFree 51 = .ok (.aload_n 0, 1) := by decide +kernel
theorem dX7_bestFree_52 : decode cX7_bestFree 52 = .ok (.iload_n 1, 1) := by decide +kernel
theorem dX7_bestFree_53 : decode cX7_bestFree 53 = .ok (.iload_n 2, 1) := by decide +kernel
theorem dX7_bestFree_54 : decode cX7_bestFree 54 = .ok (.invokevirtual 198, 3) := by decide +kernel
theorem dX7_bestFree_57 : decode cX7_bestFree 57 = .ok (.goto 6, 3) := by decide +kernel
theorem dX7_bestFree_60 : decode cX7_bestFree 60 = .ok (.sipush 361, 3) := by decide +kernel
theorem dX7_bestFree_63 : decode cX7_bestFree 63 = .ok (.istore 5, 2) := by decide +kernel
theorem dX7_bestFree_65 : decode cX7_bestFree 65 = .ok (.iload 5, 2) := by decide +kernel
theorem dX7_bestFree_67 : decode cX7_bestFree 67 = .ok (.iload_n 3, 1) := by decide +kernel
theorem dX7_bestFree_68 : decode cX7_bestFree 68 = .ok (.if_icmp .lt 28, 3) := by decide +kernel
theorem dX7_bestFree_71 : decode cX7_bestFree 71 = .ok (.iload 5, 2) := by decide +kernel
theorem dX7_bestFree_73 : decode cX7_bestFree 73 = .ok (.sipush 361, 3) := by decide +kernel
theorem dX7_bestFree_76 : decode cX7_bestFree 76 = .ok (.if_icmp .ge 24, 3) := by decide +kernel
theorem dX7_bestFree_79 : decode cX7_bestFree 79 = .ok (.iload 5, 2) := by decide +kernel
theorem dX7_bestFree_81 : decode cX7_bestFree 81 = .ok (.iload_n 3, 1) := by decide +kernel
theorem dX7_bestFree_82 : decode cX7_bestFree 82 = .ok (.if_icmp .ne 18, 3) := by decide +kernel
theorem dX7_bestFree_85 : decode cX7_bestFree 85 = .ok (.aload_n 0, 1) := by decide +kernel
theorem dX7_bestFree_86 : decode cX7_bestFree 86 = .ok (.getfield 192, 3) := by decide +kernel
theorem dX7_bestFree_89 : decode cX7_bestFree 89 = .ok (.aload_n 0, 1) := by decide +kernel
theorem dX7_bestFree_90 : decode cX7_bestFree 90 = .ok (.getfield 201, 3) := by decide +kernel
theorem dX7_bestFree_93 : decode cX7_bestFree 93 = .ok (.if_icmp .ge 7, 3) := by decide +kernel
theorem dX7_bestFree_96 : decode cX7_bestFree 96 = .ok (.iconst 1, 1) := by decide +kernel
theorem dX7_bestFree_97 : decode cX7_bestFree 97 = .ok (.goto 4, 3) := by decide +kernel
theorem dX7_bestFree_100 : decode cX7_bestFree 100 = .ok (.iconst 0, 1) := by decide +kernel
theorem dX7_bestFree_101 : decode cX7_bestFree 101 = .ok (.istore 6, 2) := by decide +kernel
theorem dX7_bestFree_103 : decode cX7_bestFree 103 = .ok (.iload 6, 2) := by decide +kernel
theorem dX7_bestFree_105 : decode cX7_bestFree 105 = .ok (.ifCond .eq 43, 3) := by decide +kernel
theorem dX7_bestFree_108 : decode cX7_bestFree 108 = .ok (.iload 5, 2) := by decide +kernel
theorem dX7_bestFree_110 : decode cX7_bestFree 110 = .ok (.istore_n 3, 1) := by decide +kernel
theorem dX7_bestFree_111 : decode cX7_bestFree 111 = .ok (.aload_n 0, 1) := by decide +kernel
theorem dX7_bestFree_112 : decode cX7_bestFree 112 = .ok (.aload_n 0, 1) := by decide +kernel
theorem dX7_bestFree_113 : decode cX7_bestFree 113 = .ok (.getfield 192, 3) := by decide +kernel
theorem dX7_bestFree_116 : decode cX7_bestFree 116 = .ok (.putfield 201, 3) := by decide +kernel
theorem dX7_bestFree_119 : decode cX7_bestFree 119 = .ok (.iconst 0, 1) := by decide +kernel
theorem dX7_bestFree_120 : decode cX7_bestFree 120 = .ok (.istore 7, 2) := by decide +kernel
theorem dX7_bestFree_122 : decode cX7_bestFree 122 = .ok (.iload 7, 2) := by decide +kernel
theorem dX7_bestFree_124 : decode cX7_bestFree 124 = .ok (.iload_n 2, 1) := by decide +kernel
theorem dX7_bestFree_125 : decode cX7_bestFree 125 = .ok (.if_icmp .ge 23, 3) := by decide +kernel
theorem dX7_bestFree_128 : decode cX7_bestFree 128 = .ok (.aload_n 0, 1) := by decide +kernel
theorem dX7_bestFree_129 : decode cX7_bestFree 129 = .ok (.getfield 43, 3) := by decide +kernel
theorem dX7_bestFree_132 : decode cX7_bestFree 132 = .ok (.iload 7, 2) := by decide +kernel
theorem dX7_bestFree_134 : decode cX7_bestFree 134 = .ok (.aload_n 0, 1) := by decide +kernel
theorem dX7_bestFree_135 : decode cX7_bestFree 135 = .ok (.getfield 40, 3) := by decide +kernel
theorem dX7_bestFree_138 : decode cX7_bestFree 138 = .ok (.iload 7, 2) := by decide +kernel
theorem dX7_bestFree_140 : decode cX7_bestFree 140 = .ok (.iaload, 1) := by decide +kernel
theorem dX7_bestFree_141 : decode cX7_bestFree 141 = .ok (.iastore, 1) := by decide +kernel
theorem dX7_bestFree_142 : decode cX7_bestFree 142 = .ok (.iinc 7 1, 3) := by decide +kernel
theorem dX7_bestFree_145 : decode cX7_bestFree 145 = .ok (.goto (-23), 3) := by decide +kernel
theorem dX7_bestFree_148 : decode cX7_bestFree 148 = .ok (.aload_n 0, 1) := by decide +kernel
theorem dX7_bestFree_149 : decode cX7_bestFree 149 = .ok (.iload_n 2, 1) := by decide +kernel
theorem dX7_bestFree_150 : decode cX7_bestFree 150 = .ok (.invokevirtual 204, 3) := by decide +kernel
theorem dX7_bestFree_153 : decode cX7_bestFree 153 = .ok (.istore 4, 2) := by decide +kernel
theorem dX7_bestFree_155 : decode cX7_bestFree 155 = .ok (.goto (-117), 3) := by decide +kernel
theorem dX7_bestFree_158 : decode cX7_bestFree 158 = .ok (.iload_n 3, 1) := by decide +kernel
theorem dX7_bestFree_159 : decode cX7_bestFree 159 = .ok (.ireturn, 1) := by decide +kernel
theorem dX7_free_0 : decode cX7_free 0 = .ok (.aload_n 0, 1) := by decide +kernel
theorem dX7_free_1 : decode cX7_free 1 = .ok (.iload_n 1, 1) := by decide +kernel
theorem dX7_free_2 : decode cX7_free 2 = .ok (.invokevirtual 80, 3) := by decide +kernel
theorem dX7_free_5 : decode cX7_free 5 = .ok (.ifCond .eq 15, 3) := by decide +kernel
theorem dX7_free_8 : decode cX7_free 8 = .ok (.iload_n 2, 1) := by decide +kernel
theorem dX7_free_9 : decode cX7_free 9 = .ok (.i2l, 1) := by decide +kernel
theorem dX7_free_10 : decode cX7_free 10 = .ok (.lconst 0, 1) := by decide +kernel
theorem dX7_free_11 : decode cX7_free 11 = .ok (.ldc2_w 207, 3) := by decide +kernel
theorem dX7_free_14 : decode cX7_free 14 = .ok (.invokestatic 68, 3) := by decide +kernel
theorem dX7_free_17 : decode cX7_free 17 = .ok (.ifCond .ne 5, 3) := by decide +kernel
theorem dX7_free_20 : decode cX7_free 20 = .ok (.iconst (-1), 1) := by decide +kernel
theorem dX7_free_21 : decode cX7_free 21 = .ok (.ireturn, 1) := by decide +kernel
theorem dX7_free_22 : decode cX7_free 22 = .ok (.aload_n 0, 1) := by decide +kernel
theorem dX7_free_23 : decode cX7_free 23 = .ok (.getfield 7, 3) := by decide +kernel
theorem dX7_free_26 : decode cX7_free 26 = .ok (.bipush 40, 2) := by decide +kernel
theorem dX7_free_28 : decode cX7_free 28 = .ok (.iload_n 1, 1) := by decide +kernel
theorem dX7_free_29 : decode cX7_free 29 = .ok (.imul, 1) := by decide +kernel
theorem dX7_free_30 : decode cX7_free 30 = .ok (.iconst 3, 1) := by decide +kernel
theorem dX7_free_31 : decode cX7_free 31 = .ok (.iadd, 1) := by decide +kernel
theorem dX7_free_32 : decode cX7_free 32 = .ok (.iaload, 1) := by decide +kernel
theorem dX7_free_33 : decode cX7_free 33 = .ok (.istore_n 3, 1) := by decide +kernel
theorem dX7_free_34 : decode cX7_free 34 = .ok (.iload_n 3, 1) := by decide +kernel
theorem dX7_free_35 : decode cX7_free 35 = .ok (.bipush 6, 2) := by decide +kernel
theorem dX7_free_37 : decode cX7_free 37 = .ok (.if_icmp .le 6, 3) := by decide +kernel
theorem dX7_free_40 : decode cX7_free 40 = .ok (.bipush (-3), 2) := by decide +kernel
theorem dX7_free_42 : decode cX7_free 42 = .ok (.ireturn, 1) := by decide +kernel
theorem dX7_free_43 : decode cX7_free 43 = .ok (.aload_n 0, 1) := by decide +kernel
theorem dX7_free_44 : decode cX7_free 44 = .ok (.iload_n 1, 1) := by decide +kernel
theorem dX7_free_45 : decode cX7_free 45 = .ok (.invokevirtual 209, 3) := by decide +kernel
theorem dX7_free_48 : decode cX7_free 48 = .ok (.aload_n 0, 1) := by decide +kernel
theorem dX7_free_49 : decode cX7_free 49 = .ok (.iload_n 1, 1) := by decide +kernel
theorem dX7_free_50 : decode cX7_free 50 = .ok (.invokevirtual 212, 3) := by decide +kernel
theorem dX7_free_53 : decode cX7_free 53 = .ok (.istore 4, 2) := by decide +kernel
theorem dX7_free_55 : decode cX7_free 55 = .ok (.iload 4, 2) := by decide +kernel
theorem dX7_free_57 : decode cX7_free 57 = .ok (.sipush 360, 3) := by decide +kernel
theorem dX7_free_60 : decode cX7_free 60 = .ok (.if_icmp .gt 15, 3) := by decide +kernel
theorem dX7_free_63 : decode cX7_free 63 = .ok (.iload_n 2, 1) := by decide +kernel
theorem dX7_free_64 : decode cX7_free 64 = .ok (.iconst 1, 1) := by decide +kernel
theorem dX7_free_65 : decode cX7_free 65 = .ok (.if_icmp .le 13, 3) := by decide +kernel
theorem dX7_free_68 : decode cX7_free 68 = .ok (.iload_n 2, 1) := by decide +kernel
theorem dX7_free_69 : decode cX7_free 69 = .ok (.iconst 2, 1) := by decide +kernel
theorem dX7_free_70 : decode cX7_free 70 = .ok (.isub, 1) := by decide +kernel
theorem dX7_free_71 : decode cX7_free 71 = .ok (.iload_n 3, 1) := by decide +kernel
theorem dX7_free_72 : decode cX7_free 72 = .ok (.if_icmp .lt 6, 3) := by decide +kernel
theorem dX7_free_75 : decode cX7_free 75 = .ok (.bipush (-4), 2) := by decide +kernel
theorem dX7_free_77 : decode cX7_free 77 = .ok (.ireturn, 1) := by decide +kernel
theorem dX7_free_78 : decode cX7_free 78 = .ok (.iload_n 2, 1) := by decide +kernel
theorem dX7_free_79 : decode cX7_free 79 = .ok (.ifCond .ne 8, 3) := by decide +kernel
theorem dX7_free_82 : decode cX7_free 82 = .ok (.iload 4, 2) := by decide +kernel
theorem dX7_free_84 : decode cX7_free 84 = .ok (.goto 23, 3) := by decide +kernel
theorem dX7_free_87 : decode cX7_free 87 = .ok (.iload_n 2, 1) := by decide +kernel
theorem dX7_free_88 : decode cX7_free 88 = .ok (.iconst 1, 1) := by decide +kernel
theorem dX7_free_89 : decode cX7_free 89 = .ok (.if_icmp .ne 10, 3) := by decide +kernel
theorem dX7_free_92 : decode cX7_free 92 = .ok (.aload_n 0, 1) := by decide +kernel
theorem dX7_free_93 : decode cX7_free 93 = .ok (.getfield 201, 3) := by decide +kernel
theorem dX7_free_96 : decode cX7_free 96 = .ok (.goto 11, 3) := by decide +kernel
theorem dX7_free_99 : decode cX7_free 99 = .ok (.aload_n 0, 1) := by decide +kernel
theorem dX7_free_100 : decode cX7_free 100 = .ok (.getfield 43, 3) := by decide +kernel
theorem dX7_free_103 : decode cX7_free 103 = .ok (.iload_n 2, 1) := by decide +kernel
theorem dX7_free_104 : decode cX7_free 104 = .ok (.iconst 2, 1) := by decide +kernel
theorem dX7_free_105 : decode cX7_free 105 = .ok (.isub, 1) := by decide +kernel
theorem dX7_free_106 : decode cX7_free 106 = .ok (.iaload, 1) := by decide +kernel
theorem dX7_free_107 : decode cX7_free 107 = .ok (.ireturn, 1) := by decide +kernel
theorem dX7_saves_0 : decode cX7_saves 0 = .ok (.aload_n 0, 1) := by decide +kernel
theorem dX7_saves_1 : decode cX7_saves 1 = .ok (.iload_n 1, 1) := by decide +kernel
theorem dX7_saves_2 : decode cX7_saves 2 = .ok (.iload_n 2, 1) := by decide +kernel
theorem dX7_saves_3 : decode cX7_saves 3 = .ok (.invokevirtual 91, 3) := by decide +kernel
theorem dX7_saves_6 : decode cX7_saves 6 = .ok (.ifCond .ne 5, 3) := by decide +kernel
theorem dX7_saves_9 : decode cX7_saves 9 = .ok (.iconst (-1), 1) := by decide +kernel
theorem dX7_saves_10 : decode cX7_saves 10 = .ok (.ireturn, 1) := by decide +kernel
theorem dX7_saves_11 : decode cX7_saves 11 = .ok (.aload_n 0, 1) := by decide +kernel
theorem dX7_saves_12 : decode cX7_saves 12 = .ok (.getfield 7, 3) := by decide +kernel
theorem dX7_saves_15 : decode cX7_saves 15 = .ok (.bipush 40, 2) := by decide +kernel
theorem dX7_saves_17 : decode cX7_saves 17 = .ok (.iload_n 1, 1) := by decide +kernel
theorem dX7_saves_18 : decode cX7_saves 18 = .ok (.imul, 1) := by decide +kernel
theorem dX7_saves_19 : decode cX7_saves 19 = .ok (.iconst 3, 1) := by decide +kernel
theorem dX7_saves_20 : decode cX7_saves 20 = .ok (.iadd, 1) := by decide +kernel
theorem dX7_saves_21 : decode cX7_saves 21 = .ok (.iaload, 1) := by decide +kernel
theorem dX7_saves_22 : decode cX7_saves 22 = .ok (.bipush 6, 2) := by decide +kernel
theorem dX7_saves_24 : decode cX7_saves 24 = .ok (.if_icmp .le 6, 3) := by decide +kernel
theorem dX7_saves_27 : decode cX7_saves 27 = .ok (.bipush (-3), 2) := by decide +kernel
theorem dX7_saves_29 : decode cX7_saves 29 = .ok (.ireturn, 1) := by decide +kernel
theorem dX7_saves_30 : decode cX7_saves 30 = .ok (.aload_n 0, 1) := by decide +kernel
theorem dX7_saves_31 : decode cX7_saves 31 = .ok (.iload_n 1, 1) := by decide +kernel
theorem dX7_saves_32 : decode cX7_saves 32 = .ok (.iload_n 2, 1) := by decide +kernel
theorem dX7_saves_33 : decode cX7_saves 33 = .ok (.invokevirtual 177, 3) := by decide +kernel
theorem dX7_saves_36 : decode cX7_saves 36 = .ok (.ifCond .ne 6, 3) := by decide +kernel
theorem dX7_saves_39 : decode cX7_saves 39 = .ok (.bipush (-2), 2) := by decide +kernel
theorem dX7_saves_41 : decode cX7_saves 41 = .ok (.ireturn, 1) := by decide +kernel
theorem dX7_saves_42 : decode cX7_saves 42 = .ok (.aload_n 0, 1) := by decide +kernel
theorem dX7_saves_43 : decode cX7_saves 43 = .ok (.iload_n 1, 1) := by decide +kernel
theorem dX7_saves_44 : decode cX7_saves 44 = .ok (.invokevirtual 209, 3) := by decide +kernel
theorem dX7_saves_47 : decode cX7_saves 47 = .ok (.aload_n 0, 1) := by decide +kernel
theorem dX7_saves_48 : decode cX7_saves 48 = .ok (.iload_n 1, 1) := by decide +kernel
theorem dX7_saves_49 : decode cX7_saves 49 = .ok (.invokevirtual 212, 3) := by decide +kernel
theorem dX7_saves_52 : decode cX7_saves 52 = .ok (.istore_n 3, 1) := by decide +kernel
theorem dX7_saves_53 : decode cX7_saves 53 = .ok (.aload_n 0, 1) := by decide +kernel
theorem dX7_saves_54 : decode cX7_saves 54 = .ok (.getfield 46, 3) := by decide +kernel
theorem dX7_saves_57 : decode cX7_saves 57 = .ok (.iconst 3, 1) := by decide +kernel
theorem dX7_saves_58 : decode cX7_saves 58 = .ok (.dup2, 1) := by decide +kernel
theorem dX7_saves_59 : decode cX7_saves 59 = .ok (.iaload, 1) := by decide +kernel
theorem dX7_saves_60 : decode cX7_saves 60 = .ok (.iconst 1, 1) := by decide +kernel
theorem dX7_saves_61 : decode cX7_saves 61 = .ok (.isub, 1) := by decide +kernel
theorem dX7_saves_62 : decode cX7_saves 62 = .ok (.iastore, 1) := by decide +kernel
theorem dX7_saves_63 : decode cX7_saves 63 = .ok (.iconst 4, 1) := by decide +kernel
theorem dX7_saves_64 : decode cX7_saves 64 = .ok (.iload_n 2, 1) := by decide +kernel
theorem dX7_saves_65 : decode cX7_saves 65 = .ok (.imul, 1) := by decide +kernel
theorem dX7_saves_66 : decode cX7_saves 66 = .ok (.istore 4, 2) := by decide +kernel
theorem dX7_saves_68 : decode cX7_saves 68 = .ok (.iload 4, 2) := by decide +kernel
theorem dX7_saves_70 : decode cX7_saves 70 = .ok (.iconst 4, 1) := by decide +kernel
theorem dX7_saves_71 : decode cX7_saves 71 = .ok (.aload_n 0, 1) := by decide +kernel
theorem dX7_saves_72 : decode cX7_saves 72 = .ok (.getfield 46, 3) := by decide +kernel
theorem dX7_saves_75 : decode cX7_saves 75 = .ok (.iconst 3, 1) := by decide +kernel
theorem dX7_saves_76 : decode cX7_saves 76 = .ok (.iaload, 1) := by decide +kernel
theorem dX7_saves_77 : decode cX7_saves 77 = .ok (.imul, 1) := by decide +kernel
theorem dX7_saves_78 : decode cX7_saves 78 = .ok (.if_icmp .ge 29, 3) := by decide +kernel
theorem dX7_saves_81 : decode cX7_saves 81 = .ok (.aload_n 0, 1) := by decide +kernel
theorem dX7_saves_82 : decode cX7_saves 82 = .ok (.getfield 46, 3) := by decide +kernel
theorem dX7_saves_85 : decode cX7_saves 85 = .ok (.bipush 8, 2) := by decide +kernel
theorem dX7_saves_87 : decode cX7_saves 87 = .ok (.iload 4, 2) := by decide +kernel
theorem dX7_saves_89 : decode cX7_saves 89 = .ok (.iadd, 1) := by decide +kernel
theorem dX7_saves_90 : decode cX7_saves 90 = .ok (.aload_n 0, 1) := by decide +kernel
theorem dX7_saves_91 : decode cX7_saves 91 = .ok (.getfield 46, 3) := by decide +kernel
theorem dX7_saves_94 : decode cX7_saves 94 = .ok (.bipush 12, 2) := by decide +kernel
theorem dX7_saves_96 : decode cX7_saves 96 = .ok (.iload 4, 2) := by decide +kernel
theorem dX7_saves_98 : decode cX7_saves 98 = .ok (.iadd, 1) := by decide +kernel
theorem dX7_saves_99 : decode cX7_saves 99 = .ok (.iaload, 1) := by decide +kernel
theorem dX7_saves_100 : decode cX7_saves 100 = .ok (.iastore, 1) := by decide +kernel
theorem dX7_saves_101 : decode cX7_saves 101 = .ok (.iinc 4 1, 3) := by decide +kernel
theorem dX7_saves_104 : decode cX7_saves 104 = .ok (.goto (-36), 3) := by decide +kernel
theorem dX7_saves_107 : decode cX7_saves 107 = .ok (.iload_n 3, 1) := by decide +kernel
theorem dX7_saves_108 : decode cX7_saves 108 = .ok (.aload_n 0, 1) := by decide +kernel
theorem dX7_saves_109 : decode cX7_saves 109 = .ok (.iload_n 1, 1) := by decide +kernel
theorem dX7_saves_110 : decode cX7_saves 110 = .ok (.invokevirtual 212, 3) := by decide +kernel
theorem dX7_saves_113 : decode cX7_saves 113 = .ok (.isub, 1) := by decide +kernel
theorem dX7_saves_114 : decode cX7_saves 114 = .ok (.ireturn, 1) := by decide +kernel
theorem dX7_bears_0 : decode cX7_bears 0 = .ok (.aload_n 0, 1) := by decide +kernel
theorem dX7_bears_1 : decode cX7_bears 1 = .ok (.iload_n 1, 1) := by decide +kernel
theorem dX7_bears_2 : decode cX7_bears 2 = .ok (.invokevirtual 80, 3) := by decide +kernel
theorem dX7_bears_5 : decode cX7_bears 5 = .ok (.ifCond .ne 5, 3) := by decide +kernel
theorem dX7_bears_8 : decode cX7_bears 8 = .ok (.iconst (-1), 1) := by decide +kernel
theorem dX7_bears_9 : decode cX7_bears 9 = .ok (.ireturn, 1) := by decide +kernel
theorem dX7_bears_10 : decode cX7_bears 10 = .ok (.aload_n 0, 1) := by decide +kernel
theorem dX7_bears_11 : decode cX7_bears 11 = .ok (.aload_n 0, 1) := by decide +kernel
theorem dX7_bears_12 : decode cX7_bears 12 = .ok (.getfield 7, 3) := by decide +kernel
theorem dX7_bears_15 : decode cX7_bears 15 = .ok (.putfield 16, 3) := by decide +kernel
theorem dX7_bears_18 : decode cX7_bears 18 = .ok (.aload_n 0, 1) := by decide +kernel
theorem dX7_bears_19 : decode cX7_bears 19 = .ok (.getfield 145, 3) := by decide +kernel
theorem dX7_bears_22 : decode cX7_bears 22 = .ok (.iconst 1, 1) := by decide +kernel
theorem dX7_bears_23 : decode cX7_bears 23 = .ok (.iadd, 1) := by decide +kernel
theorem dX7_bears_24 : decode cX7_bears 24 = .ok (.istore_n 2, 1) := by decide +kernel
theorem dX7_bears_25 : decode cX7_bears 25 = .ok (.iload_n 2, 1) := by decide +kernel
theorem dX7_bears_26 : decode cX7_bears 26 = .ok (.sipush 360, 3) := by decide +kernel
theorem dX7_bears_29 : decode cX7_bears 29 = .ok (.if_icmp .ge 25, 3) := by decide +kernel
theorem dX7_bears_32 : decode cX7_bears 32 = .ok (.aload_n 0, 1) := by decide +kernel
theorem dX7_bears_33 : decode cX7_bears 33 = .ok (.iload_n 1, 1) := by decide +kernel
theorem dX7_bears_34 : decode cX7_bears 34 = .ok (.iload_n 2, 1) := by decide +kernel
theorem dX7_bears_35 : decode cX7_bears 35 = .ok (.invokevirtual 162, 3) := by decide +kernel
theorem dX7_bears_38 : decode cX7_bears 38 = .ok (.ifCond .eq 10, 3) := by decide +kernel
theorem dX7_bears_41 : decode cX7_bears 41 = .ok (.iload_n 2, 1) := by decide +kernel
theorem dX7_bears_42 : decode cX7_bears 42 = .ok (.aload_n 0, 1) := by decide +kernel
theorem dX7_bears_43 : decode cX7_bears 43 = .ok (.getfield 145, 3) := by decide +kernel
theorem dX7_bears_46 : decode cX7_bears 46 = .ok (.isub, 1) := by decide +kernel
theorem dX7_bears_47 : decode cX7_bears 47 = .ok (.ireturn, 1) := by decide +kernel
theorem dX7_bears_48 : decode cX7_bears 48 = .ok (.iinc 2 1, 3) := by decide +kernel
theorem dX7_bears_51 : decode cX7_bears 51 = .ok (.goto (-26), 3) := by decide +kernel
theorem dX7_bears_54 : decode cX7_bears 54 = .ok (.bipush (-4), 2) := by decide +kernel
theorem dX7_bears_56 : decode cX7_bears 56 = .ok (.ireturn, 1) := by decide +kernel
theorem dX7_ware_0 : decode cX7_ware 0 = .ok (.iload_n 1, 1) := by decide +kernel
theorem dX7_ware_1 : decode cX7_ware 1 = .ok (.i2l, 1) := by decide +kernel
theorem dX7_ware_2 : decode cX7_ware 2 = .ok (.lconst 1, 1) := by decide +kernel
theorem dX7_ware_3 : decode cX7_ware 3 = .ok (.ldc2_w 74, 3) := by decide +kernel
theorem dX7_ware_6 : decode cX7_ware 6 = .ok (.invokestatic 68, 3) := by decide +kernel
theorem dX7_ware_9 : decode cX7_ware 9 = .ok (.ifCond .eq 15, 3) := by decide +kernel
theorem dX7_ware_12 : decode cX7_ware 12 = .ok (.iload_n 2, 1) := by decide +kernel
theorem dX7_ware_13 : decode cX7_ware 13 = .ok (.i2l, 1) := by decide +kernel
theorem dX7_ware_14 : decode cX7_ware 14 = .ok (.lconst 1, 1) := by decide +kernel
theorem dX7_ware_15 : decode cX7_ware 15 = .ok (.ldc2_w 100, 3) := by decide +kernel
theorem dX7_ware_18 : decode cX7_ware 18 = .ok (.invokestatic 68, 3) := by decide +kernel
theorem dX7_ware_21 : decode cX7_ware 21 = .ok (.ifCond .ne 5, 3) := by decide +kernel
theorem dX7_ware_24 : decode cX7_ware 24 = .ok (.iconst (-1), 1) := by decide +kernel
theorem dX7_ware_25 : decode cX7_ware 25 = .ok (.ireturn, 1) := by decide +kernel
theorem dX7_ware_26 : decode cX7_ware 26 = .ok (.aload_n 0, 1) := by decide +kernel
theorem dX7_ware_27 : decode cX7_ware 27 = .ok (.getfield 151, 3) := by decide +kernel
theorem dX7_ware_30 : decode cX7_ware 30 = .ok (.bipush 8, 2) := by decide +kernel
theorem dX7_ware_32 : decode cX7_ware 32 = .ok (.if_icmp .ne 6, 3) := by decide +kernel
theorem dX7_ware_35 : decode cX7_ware 35 = .ok (.bipush (-3), 2) := by decide +kernel
theorem dX7_ware_37 : decode cX7_ware 37 = .ok (.ireturn, 1) := by decide +kernel
theorem dX7_ware_38 : decode cX7_ware 38 = .ok (.aload_n 0, 1) := by decide +kernel
theorem dX7_ware_39 : decode cX7_ware 39 = .ok (.getfield 28, 3) := by decide +kernel
theorem dX7_ware_42 : decode cX7_ware 42 = .ok (.aload_n 0, 1) := by decide +kernel
theorem dX7_ware_43 : decode cX7_ware 43 = .ok (.getfield 151, 3) := by decide +kernel
theorem dX7_ware_46 : decode cX7_ware 46 = .ok (.iload_n 1, 1) := by decide +kernel
theorem dX7_ware_47 : decode cX7_ware 47 = .ok (.iastore, 1) := by decide +kernel
theorem dX7_ware_48 : decode cX7_ware 48 = .ok (.aload_n 0, 1) := by decide +kernel
theorem dX7_ware_49 : decode cX7_ware 49 = .ok (.getfield 31, 3) := by decide +kernel
theorem dX7_ware_52 : decode cX7_ware 52 = .ok (.aload_n 0, 1) := by decide +kernel
theorem dX7_ware_53 : decode cX7_ware 53 = .ok (.getfield 151, 3) := by decide +kernel
theorem dX7_ware_56 : decode cX7_ware 56 = .ok (.iload_n 2, 1) := by decide +kernel
theorem dX7_ware_57 : decode cX7_ware 57 = .ok (.iastore, 1) := by decide +kernel
theorem dX7_ware_58 : decode cX7_ware 58 = .ok (.aload_n 0, 1) := by decide +kernel
theorem dX7_ware_59 : decode cX7_ware 59 = .ok (.dup, 1) := by decide +kernel
theorem dX7_ware_60 : decode cX7_ware 60 = .ok (.getfield 151, 3) := by decide +kernel
theorem dX7_ware_63 : decode cX7_ware 63 = .ok (.iconst 1, 1) := by decide +kernel
theorem dX7_ware_64 : decode cX7_ware 64 = .ok (.iadd, 1) := by decide +kernel
theorem dX7_ware_65 : decode cX7_ware 65 = .ok (.putfield 151, 3) := by decide +kernel
theorem dX7_ware_68 : decode cX7_ware 68 = .ok (.aload_n 0, 1) := by decide +kernel
theorem dX7_ware_69 : decode cX7_ware 69 = .ok (.getfield 151, 3) := by decide +kernel
theorem dX7_ware_72 : decode cX7_ware 72 = .ok (.iconst 1, 1) := by decide +kernel
theorem dX7_ware_73 : decode cX7_ware 73 = .ok (.isub, 1) := by decide +kernel
theorem dX7_ware_74 : decode cX7_ware 74 = .ok (.ireturn, 1) := by decide +kernel
theorem dX7_under_0 : decode cX7_under 0 = .ok (.iload_n 1, 1) := by decide +kernel
theorem dX7_under_1 : decode cX7_under 1 = .ok (.i2l, 1) := by decide +kernel
theorem dX7_under_2 : decode cX7_under 2 = .ok (.lconst 0, 1) := by decide +kernel
theorem dX7_under_3 : decode cX7_under 3 = .ok (.aload_n 0, 1) := by decide +kernel
theorem dX7_under_4 : decode cX7_under 4 = .ok (.getfield 151, 3) := by decide +kernel
theorem dX7_under_7 : decode cX7_under 7 = .ok (.iconst 1, 1) := by decide +kernel
theorem dX7_under_8 : decode cX7_under 8 = .ok (.isub, 1) := by decide +kernel
theorem dX7_under_9 : decode cX7_under 9 = .ok (.i2l, 1) := by decide +kernel
theorem dX7_under_10 : decode cX7_under 10 = .ok (.invokestatic 68, 3) := by decide +kernel
theorem dX7_under_13 : decode cX7_under 13 = .ok (.ifCond .eq 38, 3) := by decide +kernel
theorem dX7_under_16 : decode cX7_under 16 = .ok (.iload_n 2, 1) := by decide +kernel
theorem dX7_under_17 : decode cX7_under 17 = .ok (.i2l, 1) := by decide +kernel
theorem dX7_under_18 : decode cX7_under 18 = .ok (.lconst 1, 1) := by decide +kernel
theorem dX7_under_19 : decode cX7_under 19 = .ok (.ldc2_w 76, 3) := by decide +kernel
theorem dX7_under_22 : decode cX7_under 22 = .ok (.invokestatic 68, 3) := by decide +kernel
theorem dX7_under_25 : decode cX7_under 25 = .ok (.ifCond .eq 26, 3) := by decide +kernel
theorem dX7_under_28 : decode cX7_under 28 = .ok (.iload_n 3, 1) := by decide +kernel
theorem dX7_under_29 : decode cX7_under 29 = .ok (.i2l, 1) := by decide +kernel
theorem dX7_under_30 : decode cX7_under 30 = .ok (.lconst 1, 1) := by decide +kernel
theorem dX7_under_31 : decode cX7_under 31 = .ok (.ldc2_w 215, 3) := by decide +kernel
theorem dX7_under_34 : decode cX7_under 34 = .ok (.invokestatic 68, 3) := by decide +kernel
theorem dX7_under_37 : decode cX7_under 37 = .ok (.ifCond .eq 14, 3) := by decide +kernel
theorem dX7_under_40 : decode cX7_under 40 = .ok (.iload 4, 2) := by decide +kernel
theorem dX7_under_42 : decode cX7_under 42 = .ok (.i2l, 1) := by decide +kernel
theorem dX7_under_43 : decode cX7_under 43 = .ok (.lconst 0, 1) := by decide +kernel
theorem dX7_under_44 : decode cX7_under 44 = .ok (.lconst 1, 1) := by decide +kernel
theorem dX7_under_45 : decode cX7_under 45 = .ok (.invokestatic 68, 3) := by decide +kernel
theorem dX7_under_48 : decode cX7_under 48 = .ok (.ifCond .ne 5, 3) := by decide +kernel
theorem dX7_under_51 : decode cX7_under 51 = .ok (.iconst (-1), 1) := by decide +kernel
theorem dX7_under_52 : decode cX7_under 52 = .ok (.ireturn, 1) := by decide +kernel
theorem dX7_under_53 : decode cX7_under 53 = .ok (.iconst 0, 1) := by decide +kernel
theorem dX7_under_54 : decode cX7_under 54 = .ok (.istore 5, 2) := by decide +kernel
theorem dX7_under_56 : decode cX7_under 56 = .ok (.bipush (-4), 2) := by decide +kernel
theorem dX7_under_58 : decode cX7_under 58 = .ok (.istore 6, 2) := by decide +kernel
theorem dX7_under_60 : decode cX7_under 60 = .ok (.iconst 1, 1) := by decide +kernel
theorem dX7_under_61 : decode cX7_under 61 = .ok (.aload_n 0, 1) := by decide +kernel
theorem dX7_under_62 : decode cX7_under 62 = .ok (.getfield 151, 3) := by decide +kernel
theorem dX7_under_65 : decode cX7_under 65 = .ok (.ishl, 1) := by decide +kernel
theorem dX7_under_66 : decode cX7_under 66 = .ok (.iconst 1, 1) := by decide +kernel
theorem dX7_under_67 : decode cX7_under 67 = .ok (.isub, 1) := by decide +kernel
theorem dX7_under_68 : decode cX7_under 68 = .ok (.istore 7, 2) := by decide +kernel
theorem dX7_under_70 : decode cX7_under 70 = .ok (.iload 7, 2) := by decide +kernel
theorem dX7_under_72 : decode cX7_under 72 = .ok (.ifCond .le 131, 3) := by decide +kernel
theorem dX7_under_75 : decode cX7_under 75 = .ok (.iconst 0, 1) := by decide +kernel
theorem dX7_under_76 : decode cX7_under 76 = .ok (.istore 8, 2) := by decide +kernel
theorem dX7_under_78 : decode cX7_under 78 = .ok (.iconst 0, 1) := by decide +kernel
theorem dX7_under_79 : decode cX7_under 79 = .ok (.istore 9, 2) := by decide +kernel
theorem dX7_under_81 : decode cX7_under 81 = .ok (.iconst 0, 1) := by decide +kernel
theorem dX7_under_82 : decode cX7_under 82 = .ok (.istore 10, 2) := by decide +kernel
theorem dX7_under_84 : decode cX7_under 84 = .ok (.iload 10, 2) := by decide +kernel
theorem dX7_under_86 : decode cX7_under 86 = .ok (.aload_n 0, 1) := by decide +kernel
theorem dX7_under_87 : decode cX7_under 87 = .ok (.getfield 151, 3) := by decide +kernel
theorem dX7_under_90 : decode cX7_under 90 = .ok (.if_icmp .ge 49, 3) := by decide +kernel
theorem dX7_under_93 : decode cX7_under 93 = .ok (.iload 8, 2) := by decide +kernel
theorem dX7_under_95 : decode cX7_under 95 = .ok (.iload 7, 2) := by decide +kernel
theorem dX7_under_97 : decode cX7_under 97 = .ok (.iload 10, 2) := by decide +kernel
theorem dX7_under_99 : decode cX7_under 99 = .ok (.ishr, 1) := by decide +kernel
theorem dX7_under_100 : decode cX7_under 100 = .ok (.iconst 1, 1) := by decide +kernel
theorem dX7_under_101 : decode cX7_under 101 = .ok (.iand, 1) := by decide +kernel
theorem dX7_under_102 : decode cX7_under 102 = .ok (.aload_n 0, 1) := by decide +kernel
theorem dX7_under_103 : decode cX7_under 103 = .ok (.getfield 28, 3) := by decide +kernel
theorem dX7_under_106 : decode cX7_under 106 = .ok (.iload 10, 2) := by decide +kernel
theorem dX7_under_108 : decode cX7_under 108 = .ok (.iaload, 1) := by decide +kernel
theorem dX7_under_109 : decode cX7_under 109 = .ok (.imul, 1) := by decide +kernel
theorem dX7_under_110 : decode cX7_under 110 = .ok (.iadd, 1) := by decide +kernel
theorem dX7_under_111 : decode cX7_under 111 = .ok (.istore 8, 2) := by decide +kernel
theorem dX7_under_113 : decode cX7_under 113 = .ok (.iload 9, 2) := by decide +kernel
theorem dX7_under_115 : decode cX7_under 115 = .ok (.iload 7, 2) := by decide +kernel
theorem dX7_under_117 : decode cX7_under 117 = .ok (.iload 10, 2) := by decide +kernel
theorem dX7_under_119 : decode cX7_under 119 = .ok (.ishr, 1) := by decide +kernel
theorem dX7_under_120 : decode cX7_under 120 = .ok (.iconst 1, 1) := by decide +kernel
theorem dX7_under_121 : decode cX7_under 121 = .ok (.iand, 1) := by decide +kernel
theorem dX7_under_122 : decode cX7_under 122 = .ok (.aload_n 0, 1) := by decide +kernel
theorem dX7_under_123 : decode cX7_under 123 = .ok (.getfield 31, 3) := by decide +kernel
theorem dX7_under_126 : decode cX7_under 126 = .ok (.iload 10, 2) := by decide +kernel
theorem dX7_under_128 : decode cX7_under 128 = .ok (.iaload, 1) := by decide +kernel
theorem dX7_under_129 : decode cX7_under 129 = .ok (.imul, 1) := by decide +kernel
theorem dX7_under_130 : decode cX7_under 130 = .ok (.iadd, 1) := by decide +kernel
theorem dX7_under_131 : decode cX7_under 131 = .ok (.istore 9, 2) := by decide +kernel
theorem dX7_under_133 : decode cX7_under 133 = .ok (.iinc 10 1, 3) := by decide +kernel
theorem dX7_under_136 : decode cX7_under 136 = .ok (.goto (-52), 3) := by decide +kernel
theorem dX7_under_139 : decode cX7_under 139 = .ok (.iload 7, 2) := by decide +kernel
theorem dX7_under_141 : decode cX7_under 141 = .ok (.iload_n 1, 1) := by decide +kernel
theorem dX7_under_142 : decode cX7_under 142 = .ok (.ishr, 1) := by decide +kernel
theorem dX7_under_143 : decode cX7_under 143 = .ok (.iconst 1, 1) := by decide +kernel
theorem dX7_under_144 : decode cX7_under 144 = .ok (.iand, 1) := by decide +kernel
theorem dX7_under_145 : decode cX7_under 145 = .ok (.iconst 1, 1) := by decide +kernel
theorem dX7_under_146 : decode cX7_under 146 = .ok (.if_icmp .ne 19, 3) := by decide +kernel
theorem dX7_under_149 : decode cX7_under 149 = .ok (.iload 8, 2) := by decide +kernel
theorem dX7_under_151 : decode cX7_under 151 = .ok (.iload_n 3, 1) := by decide +kernel
theorem dX7_under_152 : decode cX7_under 152 = .ok (.if_icmp .ne 13, 3) := by decide +kernel
theorem dX7_under_155 : decode cX7_under 155 = .ok (.iload 9, 2) := by decide +kernel
theorem dX7_under_157 : decode cX7_under 157 = .ok (.iload_n 2, 1) := by decide +kernel
theorem dX7_under_158 : decode cX7_under 158 = .ok (.if_icmp .ne 7, 3) := by decide +kernel
theorem dX7_under_161 : decode cX7_under 161 = .ok (.iconst 1, 1) := by decide +kernel
theorem dX7_under_162 : decode cX7_under 162 = .ok (.goto 4, 3) := by decide +kernel
theorem dX7_under_165 : decode cX7_under 165 = .ok (.iconst 0, 1) := by decide +kernel
theorem dX7_under_166 : decode cX7_under 166 = .ok (.istore 10, 2) := by decide +kernel
theorem dX7_under_168 : decode cX7_under 168 = .ok (.iload 5, 2) := by decide +kernel
theorem dX7_under_170 : decode cX7_under 170 = .ok (.iload 10, 2) := by decide +kernel
theorem dX7_under_172 : decode cX7_under 172 = .ok (.ifCond .eq 7, 3) := by decide +kernel
theorem dX7_under_175 : decode cX7_under 175 = .ok (.iconst 1, 1) := by decide +kernel
theorem dX7_under_176 : decode cX7_under 176 = .ok (.goto 4, 3) := by decide +kernel
theorem dX7_under_179 : decode cX7_under 179 = .ok (.iconst 0, 1) := by decide +kernel
theorem dX7_under_180 : decode cX7_under 180 = .ok (.iadd, 1) := by decide +kernel
theorem dX7_under_181 : decode cX7_under 181 = .ok (.istore 5, 2) := by decide +kernel
theorem dX7_under_183 : decode cX7_under 183 = .ok (.iload 10, 2) := by decide +kernel
theorem dX7_under_185 : decode cX7_under 185 = .ok (.ifCond .eq 8, 3) := by decide +kernel
theorem dX7_under_188 : decode cX7_under 188 = .ok (.iload 7, 2) := by decide +kernel
theorem dX7_under_190 : decode cX7_under 190 = .ok (.goto 5, 3) := by decide +kernel
theorem dX7_under_193 : decode cX7_under 193 = .ok (.iload 6, 2) := by decide +kernel
theorem dX7_under_195 : decode cX7_under 195 = .ok (.istore 6, 2) := by decide +kernel
theorem dX7_under_197 : decode cX7_under 197 = .ok (.iinc 7 (-1), 3) := by decide +kernel
theorem dX7_under_200 : decode cX7_under 200 = .ok (.goto (-130), 3) := by decide +kernel
theorem dX7_under_203 : decode cX7_under 203 = .ok (.iload 4, 2) := by decide +kernel
theorem dX7_under_205 : decode cX7_under 205 = .ok (.ifCond .ne 8, 3) := by decide +kernel
theorem dX7_under_208 : decode cX7_under 208 = .ok (.iload 5, 2) := by decide +kernel
theorem dX7_under_210 : decode cX7_under 210 = .ok (.goto 5, 3) := by decide +kernel
theorem dX7_under_213 : decode cX7_under 213 = .ok (.iload 6, 2) := by decide +kernel
theorem dX7_under_215 : decode cX7_under 215 = .ok (.ireturn, 1) := by decide +kernel
theorem dX7_lay_0 : decode cX7_lay 0 = .ok (.iconst 0, 1) := by decide +kernel
theorem dX7_lay_1 : decode cX7_lay 1 = .ok (.istore_n 3, 1) := by decide +kernel
theorem dX7_lay_2 : decode cX7_lay 2 = .ok (.iload_n 3, 1) := by decide +kernel
theorem dX7_lay_3 : decode cX7_lay 3 = .ok (.aload_n 1, 1) := by decide +kernel
theorem dX7_lay_4 : decode cX7_lay 4 = .ok (.arraylength, 1) := by decide +kernel
theorem dX7_lay_5 : decode cX7_lay 5 = .ok (.if_icmp .ge 20, 3) := by decide +kernel
theorem dX7_lay_8 : decode cX7_lay 8 = .ok (.aload_n 0, 1) := by decide +kernel
theorem dX7_lay_9 : decode cX7_lay 9 = .ok (.getfield 49, 3) := by decide +kernel
theorem dX7_lay_12 : decode cX7_lay 12 = .ok (.iload_n 2, 1) := by decide +kernel
theorem dX7_lay_13 : decode cX7_lay 13 = .ok (.iload_n 3, 1) := by decide +kernel
theorem dX7_lay_14 : decode cX7_lay 14 = .ok (.iadd, 1) := by decide +kernel
theorem dX7_lay_15 : decode cX7_lay 15 = .ok (.aload_n 1, 1) := by decide +kernel
theorem dX7_lay_16 : decode cX7_lay 16 = .ok (.iload_n 3, 1) := by decide +kernel
theorem dX7_lay_17 : decode cX7_lay 17 = .ok (.iaload, 1) := by decide +kernel
theorem dX7_lay_18 : decode cX7_lay 18 = .ok (.iastore, 1) := by decide +kernel
theorem dX7_lay_19 : decode cX7_lay 19 = .ok (.iinc 3 1, 3) := by decide +kernel
theorem dX7_lay_22 : decode cX7_lay 22 = .ok (.goto (-20), 3) := by decide +kernel
theorem dX7_lay_25 : decode cX7_lay 25 = .ok (.iload_n 2, 1) := by decide +kernel
theorem dX7_lay_26 : decode cX7_lay 26 = .ok (.aload_n 1, 1) := by decide +kernel
theorem dX7_lay_27 : decode cX7_lay 27 = .ok (.arraylength, 1) := by decide +kernel
theorem dX7_lay_28 : decode cX7_lay 28 = .ok (.iadd, 1) := by decide +kernel
theorem dX7_lay_29 : decode cX7_lay 29 = .ok (.ireturn, 1) := by decide +kernel
theorem dX7_gives_0 : decode cX7_gives 0 = .ok (.iconst 0, 1) := by decide +kernel
theorem dX7_gives_1 : decode cX7_gives 1 = .ok (.istore_n 3, 1) := by decide +kernel
theorem dX7_gives_2 : decode cX7_gives 2 = .ok (.iload_n 3, 1) := by decide +kernel
theorem dX7_gives_3 : decode cX7_gives 3 = .ok (.aload_n 2, 1) := by decide +kernel
theorem dX7_gives_4 : decode cX7_gives 4 = .ok (.arraylength, 1) := by decide +kernel
theorem dX7_gives_5 : decode cX7_gives 5 = .ok (.if_icmp .ge 20, 3) := by decide +kernel
theorem dX7_gives_8 : decode cX7_gives 8 = .ok (.aload_n 2, 1) := by decide +kernel
theorem dX7_gives_9 : decode cX7_gives 9 = .ok (.iload_n 3, 1) := by decide +kernel
theorem dX7_gives_10 : decode cX7_gives 10 = .ok (.aload_n 0, 1) := by decide +kernel
theorem dX7_gives_11 : decode cX7_gives 11 = .ok (.getfield 49, 3) := by decide +kernel
theorem dX7_gives_14 : decode cX7_gives 14 = .ok (.iload_n 1, 1) := by decide +kernel
theorem dX7_gives_15 : decode cX7_gives 15 = .ok (.iload_n 3, 1) := by decide +kernel
theorem dX7_gives_16 : decode cX7_gives 16 = .ok (.iadd, 1) := by decide +kernel
theorem dX7_gives_17 : decode cX7_gives 17 = .ok (.iaload, 1) := by decide +kernel
theorem dX7_gives_18 : decode cX7_gives 18 = .ok (.iastore, 1) := by decide +kernel
theorem dX7_gives_19 : decode cX7_gives 19 = .ok (.iinc 3 1, 3) := by decide +kernel
theorem dX7_gives_22 : decode cX7_gives 22 = .ok (.goto (-20), 3) := by decide +kernel
theorem dX7_gives_25 : decode cX7_gives 25 = .ok (.iload_n 1, 1) := by decide +kernel
theorem dX7_gives_26 : decode cX7_gives 26 = .ok (.aload_n 2, 1) := by decide +kernel
theorem dX7_gives_27 : decode cX7_gives 27 = .ok (.arraylength, 1) := by decide +kernel
theorem dX7_gives_28 : decode cX7_gives 28 = .ok (.iadd, 1) := by decide +kernel
theorem dX7_gives_29 : decode cX7_gives 29 = .ok (.ireturn, 1) := by decide +kernel
theorem dX7_image_0 : decode cX7_image 0 = .ok (.aload_n 0, 1) := by decide +kernel
theorem dX7_image_1 : decode cX7_image 1 = .ok (.aload_n 0, 1) := by decide +kernel
theorem dX7_image_2 : decode cX7_image 2 = .ok (.getfield 7, 3) := by decide +kernel
theorem dX7_image_5 : decode cX7_image 5 = .ok (.iconst 0, 1) := by decide +kernel
theorem dX7_image_6 : decode cX7_image 6 = .ok (.invokevirtual 217, 3) := by decide +kernel
theorem dX7_image_9 : decode cX7_image 9 = .ok (.istore_n 1, 1) := by decide +kernel
theorem dX7_image_10 : decode cX7_image 10 = .ok (.aload_n 0, 1) := by decide +kernel
theorem dX7_image_11 : decode cX7_image 11 = .ok (.aload_n 0, 1) := by decide +kernel
theorem dX7_image_12 : decode cX7_image 12 = .ok (.getfield 19, 3) := by decide +kernel
theorem dX7_image_15 : decode cX7_image 15 = .ok (.iload_n 1, 1) := by decide +kernel
theorem dX7_image_16 : decode cX7_image 16 = .ok (.invokevirtual 217, 3) := by decide +kernel
theorem dX7_image_19 : decode cX7_image 19 = .ok (.istore_n 1, 1) := by decide +kernel
theorem dX7_image_20 : decode cX7_image 20 = .ok (.aload_n 0, 1) := by decide +kernel
theorem dX7_image_21 : decode cX7_image 21 = .ok (.aload_n 0, 1) := by decide +kernel
theorem dX7_image_22 : decode cX7_image 22 = .ok (.getfield 22, 3) := by decide +kernel
theorem dX7_image_25 : decode cX7_image 25 = .ok (.iload_n 1, 1) := by decide +kernel
theorem dX7_image_26 : decode cX7_image 26 = .ok (.invokevirtual 217, 3) := by decide +kernel
theorem dX7_image_29 : decode cX7_image 29 = .ok (.istore_n 1, 1) := by decide +kernel
theorem dX7_image_30 : decode cX7_image 30 = .ok (.aload_n 0, 1) := by decide +kernel
theorem dX7_image_31 : decode cX7_image 31 = .ok (.aload_n 0, 1) := by decide +kernel
theorem dX7_image_32 : decode cX7_image 32 = .ok (.getfield 25, 3) := by decide +kernel
theorem dX7_image_35 : decode cX7_image 35 = .ok (.iload_n 1, 1) := by decide +kernel
theorem dX7_image_36 : decode cX7_image 36 = .ok (.invokevirtual 217, 3) := by decide +kernel
theorem dX7_image_39 : decode cX7_image 39 = .ok (.istore_n 1, 1) := by decide +kernel
theorem dX7_image_40 : decode cX7_image 40 = .ok (.aload_n 0, 1) := by decide +kernel
theorem dX7_image_41 : decode cX7_image 41 = .ok (.aload_n 0, 1) := by decide +kernel
theorem dX7_image_42 : decode cX7_image 42 = .ok (.getfield 28, 3) := by decide +kernel
theorem dX7_image_45 : decode cX7_image 45 = .ok (.iload_n 1, 1) := by decide +kernel
theorem dX7_image_46 : decode cX7_image 46 = .ok (.invokevirtual 217, 3) := by decide +kernel
theorem dX7_image_49 : decode cX7_image 49 = .ok (.istore_n 1, 1) := by decide +kernel
theorem dX7_image_50 : decode cX7_image 50 = .ok (.aload_n 0, 1) := by decide +kernel
theorem dX7_image_51 : decode cX7_image 51 = .ok (.aload_n 0, 1) := by decide +kernel
theorem dX7_image_52 : decode cX7_image 52 = .ok (.getfield 31, 3) := by decide +kernel
theorem dX7_image_55 : decode cX7_image 55 = .ok (.iload_n 1, 1) := by decide +kernel
theorem dX7_image_56 : decode cX7_image 56 = .ok (.invokevirtual 217, 3) := by decide +kernel
theorem dX7_image_59 : decode cX7_image 59 = .ok (.istore_n 1, 1) := by decide +kernel
theorem dX7_image_60 : decode cX7_image 60 = .ok (.aload_n 0, 1) := by decide +kernel
theorem dX7_image_61 : decode cX7_image 61 = .ok (.getfield 49, 3) := by decide +kernel
theorem dX7_image_64 : decode cX7_image 64 = .ok (.iload_n 1, 1) := by decide +kernel
theorem dX7_image_65 : decode cX7_image 65 = .ok (.aload_n 0, 1) := by decide +kernel
theorem dX7_image_66 : decode cX7_image 66 = .ok (.getfield 64, 3) := by decide +kernel
theorem dX7_image_69 : decode cX7_image 69 = .ok (.iastore, 1) := by decide +kernel
theorem dX7_image_70 : decode cX7_image 70 = .ok (.aload_n 0, 1) := by decide +kernel
theorem dX7_image_71 : decode cX7_image 71 = .ok (.getfield 49, 3) := by decide +kernel
theorem dX7_image_74 : decode cX7_image 74 = .ok (.iload_n 1, 1) := by decide +kernel
theorem dX7_image_75 : decode cX7_image 75 = .ok (.iconst 1, 1) := by decide +kernel
theorem dX7_image_76 : decode cX7_image 76 = .ok (.iadd, 1) := by decide +kernel
theorem dX7_image_77 : decode cX7_image 77 = .ok (.aload_n 0, 1) := by decide +kernel
theorem dX7_image_78 : decode cX7_image 78 = .ok (.getfield 145, 3) := by decide +kernel
theorem dX7_image_81 : decode cX7_image 81 = .ok (.iastore, 1) := by decide +kernel
theorem dX7_image_82 : decode cX7_image 82 = .ok (.aload_n 0, 1) := by decide +kernel
theorem dX7_image_83 : decode cX7_image 83 = .ok (.getfield 49, 3) := by decide +kernel
theorem dX7_image_86 : decode cX7_image 86 = .ok (.iload_n 1, 1) := by decide +kernel
theorem dX7_image_87 : decode cX7_image 87 = .ok (.iconst 2, 1) := by decide +kernel
theorem dX7_image_88 : decode cX7_image 88 = .ok (.iadd, 1) := by decide +kernel
theorem dX7_image_89 : decode cX7_image 89 = .ok (.aload_n 0, 1) := by decide +kernel
theorem dX7_image_90 : decode cX7_image 90 = .ok (.getfield 148, 3) := by decide +kernel
theorem dX7_image_93 : decode cX7_image 93 = .ok (.iastore, 1) := by decide +kernel
theorem dX7_image_94 : decode cX7_image 94 = .ok (.aload_n 0, 1) := by decide +kernel
theorem dX7_image_95 : decode cX7_image 95 = .ok (.getfield 49, 3) := by decide +kernel
theorem dX7_image_98 : decode cX7_image 98 = .ok (.iload_n 1, 1) := by decide +kernel
theorem dX7_image_99 : decode cX7_image 99 = .ok (.iconst 3, 1) := by decide +kernel
theorem dX7_image_100 : decode cX7_image 100 = .ok (.iadd, 1) := by decide +kernel
theorem dX7_image_101 : decode cX7_image 101 = .ok (.aload_n 0, 1) := by decide +kernel
theorem dX7_image_102 : decode cX7_image 102 = .ok (.getfield 151, 3) := by decide +kernel
theorem dX7_image_105 : decode cX7_image 105 = .ok (.iastore, 1) := by decide +kernel
theorem dX7_image_106 : decode cX7_image 106 = .ok (.aload_n 0, 1) := by decide +kernel
theorem dX7_image_107 : decode cX7_image 107 = .ok (.iconst 1, 1) := by decide +kernel
theorem dX7_image_108 : decode cX7_image 108 = .ok (.putfield 221, 3) := by decide +kernel
theorem dX7_image_111 : decode cX7_image 111 = .ok (.iconst 1, 1) := by decide +kernel
theorem dX7_image_112 : decode cX7_image 112 = .ok (.ireturn, 1) := by decide +kernel
theorem dX7_restore_0 : decode cX7_restore 0 = .ok (.aload_n 0, 1) := by decide +kernel
theorem dX7_restore_1 : decode cX7_restore 1 = .ok (.getfield 221, 3) := by decide +kernel
theorem dX7_restore_4 : decode cX7_restore 4 = .ok (.ifCond .ne 6, 3) := by decide +kernel
theorem dX7_restore_7 : decode cX7_restore 7 = .ok (.bipush (-4), 2) := by decide +kernel
theorem dX7_restore_9 : decode cX7_restore 9 = .ok (.ireturn, 1) := by decide +kernel
theorem dX7_restore_10 : decode cX7_restore 10 = .ok (.aload_n 0, 1) := by decide +kernel
theorem dX7_restore_11 : decode cX7_restore 11 = .ok (.iconst 0, 1) := by decide +kernel
theorem dX7_restore_12 : decode cX7_restore 12 = .ok (.aload_n 0, 1) := by decide +kernel
theorem dX7_restore_13 : decode cX7_restore 13 = .ok (.getfield 7, 3) := by decide +kernel
theorem dX7_restore_16 : decode cX7_restore 16 = .ok (.invokevirtual 224, 3) := by decide +kernel
theorem dX7_restore_19 : decode cX7_restore 19 = .ok (.istore_n 1, 1) := by decide +kernel
theorem dX7_restore_20 : decode cX7_restore 20 = .ok (.aload_n 0, 1) := by decide +kernel
theorem dX7_restore_21 : decode cX7_restore 21 = .ok (.iload_n 1, 1) := by decide +kernel
theorem dX7_restore_22 : decode cX7_restore 22 = .ok (.aload_n 0, 1) := by decide +kernel
theorem dX7_restore_23 : decode cX7_restore 23 = .ok (.getfield 19, 3) := by decide +kernel
theorem dX7_restore_26 : decode cX7_restore 26 = .ok (.invokevirtual 224, 3) := by decide +kernel
theorem dX7_restore_29 : decode cX7_restore 29 = .ok (.istore_n 1, 1) := by decide +kernel
theorem dX7_restore_30 : decode cX7_restore 30 = .ok (.aload_n 0, 1) := by decide +kernel
theorem dX7_restore_31 : decode cX7_restore 31 = .ok (.iload_n 1, 1) := by decide +kernel
theorem dX7_restore_32 : decode cX7_restore 32 = .ok (.aload_n 0, 1) := by decide +kernel
theorem dX7_restore_33 : decode cX7_restore 33 = .ok (.getfield 22, 3) := by decide +kernel
theorem dX7_restore_36 : decode cX7_restore 36 = .ok (.invokevirtual 224, 3) := by decide +kernel
theorem dX7_restore_39 : decode cX7_restore 39 = .ok (.istore_n 1, 1) := by decide +kernel
theorem dX7_restore_40 : decode cX7_restore 40 = .ok (.aload_n 0, 1) := by decide +kernel
theorem dX7_restore_41 : decode cX7_restore 41 = .ok (.iload_n 1, 1) := by decide +kernel
theorem dX7_restore_42 : decode cX7_restore 42 = .ok (.aload_n 0, 1) := by decide +kernel
theorem dX7_restore_43 : decode cX7_restore 43 = .ok (.getfield 25, 3) := by decide +kernel
theorem dX7_restore_46 : decode cX7_restore 46 = .ok (.invokevirtual 224, 3) := by decide +kernel
theorem dX7_restore_49 : decode cX7_restore 49 = .ok (.istore_n 1, 1) := by decide +kernel
theorem dX7_restore_50 : decode cX7_restore 50 = .ok (.aload_n 0, 1) := by decide +kernel
theorem dX7_restore_51 : decode cX7_restore 51 = .ok (.iload_n 1, 1) := by decide +kernel
theorem dX7_restore_52 : decode cX7_restore 52 = .ok (.aload_n 0, 1) := by decide +kernel
theorem dX7_restore_53 : decode cX7_restore 53 = .ok (.getfield 28, 3) := by decide +kernel
theorem dX7_restore_56 : decode cX7_restore 56 = .ok (.invokevirtual 224, 3) := by decide +kernel
theorem dX7_restore_59 : decode cX7_restore 59 = .ok (.istore_n 1, 1) := by decide +kernel
theorem dX7_restore_60 : decode cX7_restore 60 = .ok (.aload_n 0, 1) := by decide +kernel
theorem dX7_restore_61 : decode cX7_restore 61 = .ok (.iload_n 1, 1) := by decide +kernel
theorem dX7_restore_62 : decode cX7_restore 62 = .ok (.aload_n 0, 1) := by decide +kernel
theorem dX7_restore_63 : decode cX7_restore 63 = .ok (.getfield 31, 3) := by decide +kernel
theorem dX7_restore_66 : decode cX7_restore 66 = .ok (.invokevirtual 224, 3) := by decide +kernel
theorem dX7_restore_69 : decode cX7_restore 69 = .ok (.istore_n 1, 1) := by decide +kernel
theorem dX7_restore_70 : decode cX7_restore 70 = .ok (.aload_n 0, 1) := by decide +kernel
theorem dX7_restore_71 : decode cX7_restore 71 = .ok (.aload_n 0, 1) := by decide +kernel
theorem dX7_restore_72 : decode cX7_restore 72 = .ok (.getfield 49, 3) := by decide +kernel
theorem dX7_restore_75 : decode cX7_restore 75 = .ok (.iload_n 1, 1) := by decide +kernel
theorem dX7_restore_76 : decode cX7_restore 76 = .ok (.iaload, 1) := by decide +kernel
theorem dX7_restore_77 : decode cX7_restore 77 = .ok (.putfield 64, 3) := by decide +kernel
theorem dX7_restore_80 : decode cX7_restore 80 = .ok (.aload_n 0, 1) := by decide +kernel
theorem dX7_restore_81 : decode cX7_restore 81 = .ok (.aload_n 0, 1) := by decide +kernel
theorem dX7_restore_82 : decode cX7_restore 82 = .ok (.getfield 49, 3) := by decide +kernel
theorem dX7_restore_85 : decode cX7_restore 85 = .ok (.iload_n 1, 1) := by decide +kernel
theorem dX7_restore_86 : decode cX7_restore 86 = .ok (.iconst 1, 1) := by decide +kernel
theorem dX7_restore_87 : decode cX7_restore 87 = .ok (.iadd, 1) := by decide +kernel
theorem dX7_restore_88 : decode cX7_restore 88 = .ok (.iaload, 1) := by decide +kernel
theorem dX7_restore_89 : decode cX7_restore 89 = .ok (.putfield 145, 3) := by decide +kernel
theorem dX7_restore_92 : decode cX7_restore 92 = .ok (.aload_n 0, 1) := by decide +kernel
theorem dX7_restore_93 : decode cX7_restore 93 = .ok (.aload_n 0, 1) := by decide +kernel
theorem dX7_restore_94 : decode cX7_restore 94 = .ok (.getfield 49, 3) := by decide +kernel
theorem dX7_restore_97 : decode cX7_restore 97 = .ok (.iload_n 1, 1) := by decide +kernel
theorem dX7_restore_98 : decode cX7_restore 98 = .ok (.iconst 2, 1) := by decide +kernel
theorem dX7_restore_99 : decode cX7_restore 99 = .ok (.iadd, 1) := by decide +kernel
theorem dX7_restore_100 : decode cX7_restore 100 = .ok (.iaload, 1) := by decide +kernel
theorem dX7_restore_101 : decode cX7_restore 101 = .ok (.putfield 148, 3) := by decide +kernel
theorem dX7_restore_104 : decode cX7_restore 104 = .ok (.aload_n 0, 1) := by decide +kernel
theorem dX7_restore_105 : decode cX7_restore 105 = .ok (.aload_n 0, 1) := by decide +kernel
theorem dX7_restore_106 : decode cX7_restore 106 = .ok (.getfield 49, 3) := by decide +kernel
theorem dX7_restore_109 : decode cX7_restore 109 = .ok (.iload_n 1, 1) := by decide +kernel
theorem dX7_restore_110 : decode cX7_restore 110 = .ok (.iconst 3, 1) := by decide +kernel
theorem dX7_restore_111 : decode cX7_restore 111 = .ok (.iadd, 1) := by decide +kernel
theorem dX7_restore_112 : decode cX7_restore 112 = .ok (.iaload, 1) := by decide +kernel
theorem dX7_restore_113 : decode cX7_restore 113 = .ok (.putfield 151, 3) := by decide +kernel
theorem dX7_restore_116 : decode cX7_restore 116 = .ok (.iconst 1, 1) := by decide +kernel
theorem dX7_restore_117 : decode cX7_restore 117 = .ok (.ireturn, 1) := by decide +kernel
theorem dX7_isSheet_0 : decode cX7_isSheet 0 = .ok (.iload_n 0, 1) := by decide +kernel
theorem dX7_isSheet_1 : decode cX7_isSheet 1 = .ok (.i2l, 1) := by decide +kernel
theorem dX7_isSheet_2 : decode cX7_isSheet 2 = .ok (.lconst 0, 1) := by decide +kernel
theorem dX7_isSheet_3 : decode cX7_isSheet 3 = .ok (.ldc2_w 95, 3) := by decide +kernel
theorem dX7_isSheet_6 : decode cX7_isSheet 6 = .ok (.invokestatic 68, 3) := by decide +kernel
theorem dX7_isSheet_9 : decode cX7_isSheet 9 = .ok (.ireturn, 1) := by decide +kernel
theorem dX7_isLane_0 : decode cX7_isLane 0 = .ok (.iload_n 0, 1) := by decide +kernel
theorem dX7_isLane_1 : decode cX7_isLane 1 = .ok (.i2l, 1) := by decide +kernel
theorem dX7_isLane_2 : decode cX7_isLane 2 = .ok (.lconst 0, 1) := by decide +kernel
theorem dX7_isLane_3 : decode cX7_isLane 3 = .ok (.ldc2_w 106, 3) := by decide +kernel
theorem dX7_isLane_6 : decode cX7_isLane 6 = .ok (.invokestatic 68, 3) := by decide +kernel
theorem dX7_isLane_9 : decode cX7_isLane 9 = .ok (.ireturn, 1) := by decide +kernel
theorem dX7_finds_0 : decode cX7_finds 0 = .ok (.aload_n 0, 1) := by decide +kernel
theorem dX7_finds_1 : decode cX7_finds 1 = .ok (.getfield 52, 3) := by decide +kernel
theorem dX7_finds_4 : decode cX7_finds 4 = .ok (.iload_n 1, 1) := by decide +kernel
theorem dX7_finds_5 : decode cX7_finds 5 = .ok (.iaload, 1) := by decide +kernel
theorem dX7_finds_6 : decode cX7_finds 6 = .ok (.ifCond .ge 6, 3) := by decide +kernel
theorem dX7_finds_9 : decode cX7_finds 9 = .ok (.bipush (-11), 2) := by decide +kernel
theorem dX7_finds_11 : decode cX7_finds 11 = .ok (.ireturn, 1) := by decide +kernel
theorem dX7_finds_12 : decode cX7_finds 12 = .ok (.aload_n 0, 1) := by decide +kernel
theorem dX7_finds_13 : decode cX7_finds 13 = .ok (.getfield 52, 3) := by decide +kernel
theorem dX7_finds_16 : decode cX7_finds 16 = .ok (.iload_n 1, 1) := by decide +kernel
theorem dX7_finds_17 : decode cX7_finds 17 = .ok (.iaload, 1) := by decide +kernel
theorem dX7_finds_18 : decode cX7_finds 18 = .ok (.iload_n 2, 1) := by decide +kernel
theorem dX7_finds_19 : decode cX7_finds 19 = .ok (.if_icmp .eq 6, 3) := by decide +kernel
theorem dX7_finds_22 : decode cX7_finds 22 = .ok (.bipush (-12), 2) := by decide +kernel
theorem dX7_finds_24 : decode cX7_finds 24 = .ok (.ireturn, 1) := by decide +kernel
theorem dX7_finds_25 : decode cX7_finds 25 = .ok (.iload_n 3, 1) := by decide +kernel
theorem dX7_finds_26 : decode cX7_finds 26 = .ok (.ifCond .lt 20, 3) := by decide +kernel
theorem dX7_finds_29 : decode cX7_finds 29 = .ok (.iload_n 3, 1) := by decide +kernel
theorem dX7_finds_30 : decode cX7_finds 30 = .ok (.i2l, 1) := by decide +kernel
theorem dX7_finds_31 : decode cX7_finds 31 = .ok (.iload 4, 2) := by decide +kernel
theorem dX7_finds_33 : decode cX7_finds 33 = .ok (.i2l, 1) := by decide +kernel
theorem dX7_finds_34 : decode cX7_finds 34 = .ok (.ladd, 1) := by decide +kernel
theorem dX7_finds_35 : decode cX7_finds 35 = .ok (.aload_n 0, 1) := by decide +kernel
theorem dX7_finds_36 : decode cX7_finds 36 = .ok (.getfield 55, 3) := by decide +kernel
theorem dX7_finds_39 : decode cX7_finds 39 = .ok (.iload_n 1, 1) := by decide +kernel
theorem dX7_finds_40 : decode cX7_finds 40 = .ok (.iaload, 1) := by decide +kernel
theorem dX7_finds_41 : decode cX7_finds 41 = .ok (.i2l, 1) := by decide +kernel
theorem dX7_finds_42 : decode cX7_finds 42 = .ok (.lcmp, 1) := by decide +kernel
theorem dX7_finds_43 : decode cX7_finds 43 = .ok (.ifCond .le 8, 3) := by decide +kernel
theorem dX7_finds_46 : decode cX7_finds 46 = .ok (.bipush (-13), 2) := by decide +kernel
theorem dX7_finds_48 : decode cX7_finds 48 = .ok (.goto 4, 3) := by decide +kernel
theorem dX7_finds_51 : decode cX7_finds 51 = .ok (.iconst 0, 1) := by decide +kernel
theorem dX7_finds_52 : decode cX7_finds 52 = .ok (.ireturn, 1) := by decide +kernel
theorem dX7_judged_0 : decode cX7_judged 0 = .ok (.iload_n 1, 1) := by decide +kernel
theorem dX7_judged_1 : decode cX7_judged 1 = .ok (.invokestatic 228, 3) := by decide +kernel
theorem dX7_judged_4 : decode cX7_judged 4 = .ok (.ifCond .eq 23, 3) := by decide +kernel
theorem dX7_judged_7 : decode cX7_judged 7 = .ok (.iload_n 2, 1) := by decide +kernel
theorem dX7_judged_8 : decode cX7_judged 8 = .ok (.invokestatic 231, 3) := by decide +kernel
theorem dX7_judged_11 : decode cX7_judged 11 = .ok (.ifCond .eq 16, 3) := by decide +kernel
theorem dX7_judged_14 : decode cX7_judged 14 = .ok (.iload 4, 2) := by decide +kernel
theorem dX7_judged_16 : decode cX7_judged 16 = .ok (.i2l, 1) := by decide +kernel
theorem dX7_judged_17 : decode cX7_judged 17 = .ok (.lconst 1, 1) := by decide +kernel
theorem dX7_judged_18 : decode cX7_judged 18 = .ok (.ldc2_w 108, 3) := by decide +kernel
theorem dX7_judged_21 : decode cX7_judged 21 = .ok (.invokestatic 68, 3) := by decide +kernel
theorem dX7_judged_24 : decode cX7_judged 24 = .ok (.ifCond .ne 5, 3) := by decide +kernel
theorem dX7_judged_27 : decode cX7_judged 27 = .ok (.iconst (-1), 1) := by decide +kernel
theorem dX7_judged_28 : decode cX7_judged 28 = .ok (.ireturn, 1) := by decide +kernel
theorem dX7_judged_29 : decode cX7_judged 29 = .ok (.aload_n 0, 1) := by decide +kernel
theorem dX7_judged_30 : decode cX7_judged 30 = .ok (.iload_n 1, 1) := by decide +kernel
theorem dX7_judged_31 : decode cX7_judged 31 = .ok (.iload_n 2, 1) := by decide +kernel
theorem dX7_judged_32 : decode cX7_judged 32 = .ok (.iload_n 3, 1) := by decide +kernel
theorem dX7_judged_33 : decode cX7_judged 33 = .ok (.iconst 3, 1) := by decide +kernel
theorem dX7_judged_34 : decode cX7_judged 34 = .ok (.iload 4, 2) := by decide +kernel
theorem dX7_judged_36 : decode cX7_judged 36 = .ok (.imul, 1) := by decide +kernel
theorem dX7_judged_37 : decode cX7_judged 37 = .ok (.invokevirtual 234, 3) := by decide +kernel
theorem dX7_judged_40 : decode cX7_judged 40 = .ok (.istore 5, 2) := by decide +kernel
theorem dX7_judged_42 : decode cX7_judged 42 = .ok (.iload 5, 2) := by decide +kernel
theorem dX7_judged_44 : decode cX7_judged 44 = .ok (.ifCond .ge 6, 3) := by decide +kernel
theorem dX7_judged_47 : decode cX7_judged 47 = .ok (.iload 5, 2) := by decide +kernel
theorem dX7_judged_49 : decode cX7_judged 49 = .ok (.ireturn, 1) := by decide +kernel
theorem dX7_judged_50 : decode cX7_judged 50 = .ok (.iconst 0, 1) := by decide +kernel
theorem dX7_judged_51 : decode cX7_judged 51 = .ok (.istore 6, 2) := by decide +kernel
theorem dX7_judged_53 : decode cX7_judged 53 = .ok (.iload 6, 2) := by decide +kernel
theorem dX7_judged_55 : decode cX7_judged 55 = .ok (.sipush 200, 3) := by decide +kernel
theorem dX7_judged_58 : decode cX7_judged 58 = .ok (.if_icmp .ge 23, 3) := by decide +kernel
theorem dX7_judged_61 : decode cX7_judged 61 = .ok (.aload_n 0, 1) := by decide +kernel
theorem dX7_judged_62 : decode cX7_judged 62 = .ok (.getfield 13, 3) := by decide +kernel
theorem dX7_judged_65 : decode cX7_judged 65 = .ok (.iload 6, 2) := by decide +kernel
theorem dX7_judged_67 : decode cX7_judged 67 = .ok (.aload_n 0, 1) := by decide +kernel
theorem dX7_judged_68 : decode cX7_judged 68 = .ok (.getfield 7, 3) := by decide +kernel
theorem dX7_judged_71 : decode cX7_judged 71 = .ok (.iload 6, 2) := by decide +kernel
theorem dX7_judged_73 : decode cX7_judged 73 = .ok (.iaload, 1) := by decide +kernel
theorem dX7_judged_74 : decode cX7_judged 74 = .ok (.iastore, 1) := by decide +kernel
theorem dX7_judged_75 : decode cX7_judged 75 = .ok (.iinc 6 1, 3) := by decide +kernel
theorem dX7_judged_78 : decode cX7_judged 78 = .ok (.goto (-25), 3) := by decide +kernel
theorem dX7_judged_81 : decode cX7_judged 81 = .ok (.aload_n 0, 1) := by decide +kernel
theorem dX7_judged_82 : decode cX7_judged 82 = .ok (.aload_n 0, 1) := by decide +kernel
theorem dX7_judged_83 : decode cX7_judged 83 = .ok (.getfield 13, 3) := by decide +kernel
theorem dX7_judged_86 : decode cX7_judged 86 = .ok (.putfield 16, 3) := by decide +kernel
theorem dX7_judged_89 : decode cX7_judged 89 = .ok (.aload_n 0, 1) := by decide +kernel
theorem dX7_judged_90 : decode cX7_judged 90 = .ok (.getfield 145, 3) := by decide +kernel
theorem dX7_judged_93 : decode cX7_judged 93 = .ok (.istore 6, 2) := by decide +kernel
theorem dX7_judged_95 : decode cX7_judged 95 = .ok (.iconst 0, 1) := by decide +kernel
theorem dX7_judged_96 : decode cX7_judged 96 = .ok (.istore 7, 2) := by decide +kernel
theorem dX7_judged_98 : decode cX7_judged 98 = .ok (.iload 7, 2) := by decide +kernel
theorem dX7_judged_100 : decode cX7_judged 100 = .ok (.iload 4, 2) := by decide +kernel
theorem dX7_judged_102 : decode cX7_judged 102 = .ok (.if_icmp .ge 223, 3) := by decide +kernel
theorem dX7_judged_105 : decode cX7_judged 105 = .ok (.bipush 24, 2) := by decide +kernel
theorem dX7_judged_107 : decode cX7_judged 107 = .ok (.iload_n 1, 1) := by decide +kernel
theorem dX7_judged_108 : decode cX7_judged 108 = .ok (.imul, 1) := by decide +kernel
theorem dX7_judged_109 : decode cX7_judged 109 = .ok (.iload_n 3, 1) := by decide +kernel
theorem dX7_judged_110 : decode cX7_judged 110 = .ok (.iadd, 1) := by decide +kernel
theorem dX7_judged_111 : decode cX7_judged 111 = .ok (.iconst 3, 1) := by decide +kernel
theorem dX7_judged_112 : decode cX7_judged 112 = .ok (.iload 7, 2) := by decide +kernel
theorem dX7_judged_114 : decode cX7_judged 114 = .ok (.imul, 1) := by decide +kernel
theorem dX7_judged_115 : decode cX7_judged 115 = .ok (.iadd, 1) := by decide +kernel
theorem dX7_judged_116 : decode cX7_judged 116 = .ok (.istore 8, 2) := by decide +kernel
theorem dX7_judged_118 : decode cX7_judged 118 = .ok (.aload_n 0, 1) := by decide +kernel
theorem dX7_judged_119 : decode cX7_judged 119 = .ok (.getfield 58, 3) := by decide +kernel
theorem dX7_judged_122 : decode cX7_judged 122 = .ok (.iload 8, 2) := by decide +kernel
theorem dX7_judged_124 : decode cX7_judged 124 = .ok (.iconst 1, 1) := by decide +kernel
theorem dX7_judged_125 : decode cX7_judged 125 = .ok (.iadd, 1) := by decide +kernel
theorem dX7_judged_126 : decode cX7_judged 126 = .ok (.iaload, 1) := by decide +kernel
theorem dX7_judged_127 : decode cX7_judged 127 = .ok (.istore 9, 2) := by decide +kernel
theorem dX7_judged_129 : decode cX7_judged 129 = .ok (.aload_n 0, 1) := by decide +kernel
theorem dX7_judged_130 : decode cX7_judged 130 = .ok (.getfield 58, 3) := by decide +kernel
theorem dX7_judged_133 : decode cX7_judged 133 = .ok (.iload 8, 2) := by decide +kernel
theorem dX7_judged_135 : decode cX7_judged 135 = .ok (.iconst 2, 1) := by decide +kernel
theorem dX7_judged_136 : decode cX7_judged 136 = .ok (.iadd, 1) := by decide +kernel
theorem dX7_judged_137 : decode cX7_judged 137 = .ok (.iaload, 1) := by decide +kernel
theorem dX7_judged_138 : decode cX7_judged 138 = .ok (.istore 10, 2) := by decide +kernel
theorem dX7_judged_140 : decode cX7_judged 140 = .ok (.aload_n 0, 1) := by decide +kernel
theorem dX7_judged_141 : decode cX7_judged 141 = .ok (.getfield 58, 3) := by decide +kernel
theorem dX7_judged_144 : decode cX7_judged 144 = .ok (.iload 8, 2) := by decide +kernel
theorem dX7_judged_146 : decode cX7_judged 146 = .ok (.iaload, 1) := by decide +kernel
theorem dX7_judged_147 : decode cX7_judged 147 = .ok (.i2l, 1) := by decide +kernel
theorem dX7_judged_148 : decode cX7_judged 148 = .ok (.iload 6, 2) := by decide +kernel
theorem dX7_judged_150 : decode cX7_judged 150 = .ok (.i2l, 1) := by decide +kernel
theorem dX7_judged_151 : decode cX7_judged 151 = .ok (.ldc2_w 238, 3) := by decide +kernel
theorem dX7_judged_154 : decode cX7_judged 154 = .ok (.invokestatic 68, 3) := by decide +kernel
theorem dX7_judged_157 : decode cX7_judged 157 = .ok (.ifCond .ne 6, 3) := by decide +kernel
theorem dX7_judged_160 : decode cX7_judged 160 = .ok (.iload 7, 2) := by decide +kernel
theorem dX7_judged_162 : decode cX7_judged 162 = .ok (.ireturn, 1) := by decide +kernel
theorem dX7_judged_163 : decode cX7_judged 163 = .ok (.iload 6, 2) := by decide +kernel
theorem dX7_judged_165 : decode cX7_judged 165 = .ok (.aload_n 0, 1) := by decide +kernel
theorem dX7_judged_166 : decode cX7_judged 166 = .ok (.getfield 58, 3) := by decide +kernel
theorem dX7_judged_169 : decode cX7_judged 169 = .ok (.iload 8, 2) := by decide +kernel
theorem dX7_judged_171 : decode cX7_judged 171 = .ok (.iaload, 1) := by decide +kernel
theorem dX7_judged_172 : decode cX7_judged 172 = .ok (.if_icmp .ge 15, 3) := by decide +kernel
theorem dX7_judged_175 : decode cX7_judged 175 = .ok (.iinc 6 1, 3) := by decide +kernel
theorem dX7_judged_178 : decode cX7_judged 178 = .ok (.aload_n 0, 1) := by decide +kernel
theorem dX7_judged_179 : decode cX7_judged 179 = .ok (.iload 6, 2) := by decide +kernel
theorem dX7_judged_181 : decode cX7_judged 181 = .ok (.invokevirtual 165, 3) := by decide +kernel
theorem dX7_judged_184 : decode cX7_judged 184 = .ok (.goto (-21), 3) := by decide +kernel
theorem dX7_judged_187 : decode cX7_judged 187 = .ok (.aload_n 0, 1) := by decide +kernel
theorem dX7_judged_188 : decode cX7_judged 188 = .ok (.iload 9, 2) := by decide +kernel
theorem dX7_judged_190 : decode cX7_judged 190 = .ok (.invokevirtual 80, 3) := by decide +kernel
theorem dX7_judged_193 : decode cX7_judged 193 = .ok (.ifCond .eq 82, 3) := by decide +kernel
theorem dX7_judged_196 : decode cX7_judged 196 = .ok (.iload 10, 2) := by decide +kernel
theorem dX7_judged_198 : decode cX7_judged 198 = .ok (.i2l, 1) := by decide +kernel
theorem dX7_judged_199 : decode cX7_judged 199 = .ok (.lconst 0, 1) := by decide +kernel
theorem dX7_judged_200 : decode cX7_judged 200 = .ok (.aload_n 0, 1) := by decide +kernel
theorem dX7_judged_201 : decode cX7_judged 201 = .ok (.getfield 13, 3) := by decide +kernel
theorem dX7_judged_204 : decode cX7_judged 204 = .ok (.bipush 40, 2) := by decide +kernel
theorem dX7_judged_206 : decode cX7_judged 206 = .ok (.iload 9, 2) := by decide +kernel
theorem dX7_judged_208 : decode cX7_judged 208 = .ok (.imul, 1) := by decide +kernel
theorem dX7_judged_209 : decode cX7_judged 209 = .ok (.iconst 3, 1) := by decide +kernel
theorem dX7_judged_210 : decode cX7_judged 210 = .ok (.iadd, 1) := by decide +kernel
theorem dX7_judged_211 : decode cX7_judged 211 = .ok (.iaload, 1) := by decide +kernel
theorem dX7_judged_212 : decode cX7_judged 212 = .ok (.iconst 1, 1) := by decide +kernel
theorem dX7_judged_213 : decode cX7_judged 213 = .ok (.isub, 1) := by decide +kernel
theorem dX7_judged_214 : decode cX7_judged 214 = .ok (.i2l, 1) := by decide +kernel
theorem dX7_judged_215 : decode cX7_judged 215 = .ok (.invokestatic 68, 3) := by decide +kernel
theorem dX7_judged_218 : decode cX7_judged 218 = .ok (.ifCond .eq 57, 3) := by decide +kernel
theorem dX7_judged_221 : decode cX7_judged 221 = .ok (.aload_n 0, 1) := by decide +kernel
theorem dX7_judged_222 : decode cX7_judged 222 = .ok (.iload 10, 2) := by decide +kernel
theorem dX7_judged_224 : decode cX7_judged 224 = .ok (.aload_n 0, 1) := by decide +kernel
theorem dX7_judged_225 : decode cX7_judged 225 = .ok (.getfield 13, 3) := by decide +kernel
theorem dX7_judged_228 : decode cX7_judged 228 = .ok (.bipush 40, 2) := by decide +kernel
theorem dX7_judged_230 : decode cX7_judged 230 = .ok (.iload 9, 2) := by decide +kernel
theorem dX7_judged_232 : decode cX7_judged 232 = .ok (.imul, 1) := by decide +kernel
theorem dX7_judged_233 : decode cX7_judged 233 = .ok (.iconst 3, 1) := by decide +kernel
theorem dX7_judged_234 : decode cX7_judged 234 = .ok (.iadd, 1) := by decide +kernel
theorem dX7_judged_235 : decode cX7_judged 235 = .ok (.iaload, 1) := by decide +kernel
theorem dX7_judged_236 : decode cX7_judged 236 = .ok (.invokevirtual 170, 3) := by decide +kernel
theorem dX7_judged_239 : decode cX7_judged 239 = .ok (.ifCond .eq 36, 3) := by decide +kernel
theorem dX7_judged_242 : decode cX7_judged 242 = .ok (.aload_n 0, 1) := by decide +kernel
theorem dX7_judged_243 : decode cX7_judged 243 = .ok (.getfield 13, 3) := by decide +kernel
theorem dX7_judged_246 : decode cX7_judged 246 = .ok (.bipush 40, 2) := by decide +kernel
theorem dX7_judged_248 : decode cX7_judged 248 = .ok (.iload 9, 2) := by decide +kernel
theorem dX7_judged_250 : decode cX7_judged 250 = .ok (.imul, 1) := by decide +kernel
theorem dX7_judged_251 : decode cX7_judged 251 = .ok (.iaload, 1) := by decide +kernel
theorem dX7_judged_252 : decode cX7_judged 252 = .ok (.aload_n 0, 1) := by decide +kernel
theorem dX7_judged_253 : decode cX7_judged 253 = .ok (.getfield 13, 3) := by decide +kernel
theorem dX7_judged_256 : decode cX7_judged 256 = .ok (.bipush 40, 2) := by decide +kernel
theorem dX7_judged_258 : decode cX7_judged 258 = .ok (.iload 9, 2) := by decide +kernel
theorem dX7_judged_260 : decode cX7_judged 260 = .ok (.imul, 1) := by decide +kernel
theorem dX7_judged_261 : decode cX7_judged 261 = .ok (.bipush 8, 2) := by decide +kernel
theorem dX7_judged_263 : decode cX7_judged 263 = .ok (.iadd, 1) := by decide +kernel
theorem dX7_judged_264 : decode cX7_judged 264 = .ok (.iconst 4, 1) := by decide +kernel
theorem dX7_judged_265 : decode cX7_judged 265 = .ok (.iload 10, 2) := by decide +kernel
theorem dX7_judged_267 : decode cX7_judged 267 = .ok (.imul, 1) := by decide +kernel
theorem dX7_judged_268 : decode cX7_judged 268 = .ok (.iadd, 1) := by decide +kernel
theorem dX7_judged_269 : decode cX7_judged 269 = .ok (.iconst 1, 1) := by decide +kernel
theorem dX7_judged_270 : decode cX7_judged 270 = .ok (.iadd, 1) := by decide +kernel
theorem dX7_judged_271 : decode cX7_judged 271 = .ok (.iaload, 1) := by decide +kernel
theorem dX7_judged_272 : decode cX7_judged 272 = .ok (.if_icmp .ge 6, 3) := by decide +kernel
theorem dX7_judged_275 : decode cX7_judged 275 = .ok (.iload 7, 2) := by decide +kernel
theorem dX7_judged_277 : decode cX7_judged 277 = .ok (.ireturn, 1) := by decide +kernel
theorem dX7_judged_278 : decode cX7_judged 278 = .ok (.aload_n 0, 1) := by decide +kernel
theorem dX7_judged_279 : decode cX7_judged 279 = .ok (.getfield 13, 3) := by decide +kernel
theorem dX7_judged_282 : decode cX7_judged 282 = .ok (.bipush 40, 2) := by decide +kernel
theorem dX7_judged_284 : decode cX7_judged 284 = .ok (.iload 9, 2) := by decide +kernel
theorem dX7_judged_286 : decode cX7_judged 286 = .ok (.imul, 1) := by decide +kernel
theorem dX7_judged_287 : decode cX7_judged 287 = .ok (.dup2, 1) := by decide +kernel
theorem dX7_judged_288 : decode cX7_judged 288 = .ok (.iaload, 1) := by decide +kernel
theorem dX7_judged_289 : decode cX7_judged 289 = .ok (.aload_n 0, 1) := by decide +kernel
theorem dX7_judged_290 : decode cX7_judged 290 = .ok (.getfield 13, 3) := by decide +kernel
theorem dX7_judged_293 : decode cX7_judged 293 = .ok (.bipush 40, 2) := by decide +kernel
theorem dX7_judged_295 : decode cX7_judged 295 = .ok (.iload 9, 2) := by decide +kernel
theorem dX7_judged_297 : decode cX7_judged 297 = .ok (.imul, 1) := by decide +kernel
theorem dX7_judged_298 : decode cX7_judged 298 = .ok (.bipush 8, 2) := by decide +kernel
theorem dX7_judged_300 : decode cX7_judged 300 = .ok (.iadd, 1) := by decide +kernel
theorem dX7_judged_301 : decode cX7_judged 301 = .ok (.iconst 4, 1) := by decide +kernel
theorem dX7_judged_302 : decode cX7_judged 302 = .ok (.iload 10, 2) := by decide +kernel
theorem dX7_judged_304 : decode cX7_judged 304 = .ok (.imul, 1) := by decide +kernel
theorem dX7_judged_305 : decode cX7_judged 305 = .ok (.iadd, 1) := by decide +kernel
theorem dX7_judged_306 : decode cX7_judged 306 = .ok (.iconst 1, 1) := by decide +kernel
theorem dX7_judged_307 : decode cX7_judged 307 = .ok (.iadd, 1) := by decide +kernel
theorem dX7_judged_308 : decode cX7_judged 308 = .ok (.iaload, 1) := by decide +kernel
theorem dX7_judged_309 : decode cX7_judged 309 = .ok (.isub, 1) := by decide +kernel
theorem dX7_judged_310 : decode cX7_judged 310 = .ok (.iastore, 1) := by decide +kernel
theorem dX7_judged_311 : decode cX7_judged 311 = .ok (.aload_n 0, 1) := by decide +kernel
theorem dX7_judged_312 : decode cX7_judged 312 = .ok (.iload 9, 2) := by decide +kernel
theorem dX7_judged_314 : decode cX7_judged 314 = .ok (.iload 10, 2) := by decide +kernel
theorem dX7_judged_316 : decode cX7_judged 316 = .ok (.invokevirtual 173, 3) := by decide +kernel
theorem dX7_judged_319 : decode cX7_judged 319 = .ok (.iinc 7 1, 3) := by decide +kernel
theorem dX7_judged_322 : decode cX7_judged 322 = .ok (.goto (-224), 3) := by decide +kernel
theorem dX7_judged_325 : decode cX7_judged 325 = .ok (.bipush (-4), 2) := by decide +kernel
theorem dX7_judged_327 : decode cX7_judged 327 = .ok (.ireturn, 1) := by decide +kernel
theorem dX7_sheet_0 : decode cX7_sheet 0 = .ok (.iload_n 1, 1) := by decide +kernel
theorem dX7_sheet_1 : decode cX7_sheet 1 = .ok (.invokestatic 228, 3) := by decide +kernel
theorem dX7_sheet_4 : decode cX7_sheet 4 = .ok (.ifCond .eq 16, 3) := by decide +kernel
theorem dX7_sheet_7 : decode cX7_sheet 7 = .ok (.iload_n 2, 1) := by decide +kernel
theorem dX7_sheet_8 : decode cX7_sheet 8 = .ok (.invokestatic 231, 3) := by decide +kernel
theorem dX7_sheet_11 : decode cX7_sheet 11 = .ok (.ifCond .eq 9, 3) := by decide +kernel
theorem dX7_sheet_14 : decode cX7_sheet 14 = .ok (.iload_n 3, 1) := by decide +kernel
theorem dX7_sheet_15 : decode cX7_sheet 15 = .ok (.bipush 24, 2) := by decide +kernel
theorem dX7_sheet_17 : decode cX7_sheet 17 = .ok (.if_icmp .le 5, 3) := by decide +kernel
theorem dX7_sheet_20 : decode cX7_sheet 20 = .ok (.iconst (-1), 1) := by decide +kernel
theorem dX7_sheet_21 : decode cX7_sheet 21 = .ok (.ireturn, 1) := by decide +kernel
theorem dX7_sheet_22 : decode cX7_sheet 22 = .ok (.iload_n 3, 1) := by decide +kernel
theorem dX7_sheet_23 : decode cX7_sheet 23 = .ok (.ifCond .ge 6, 3) := by decide +kernel
theorem dX7_sheet_26 : decode cX7_sheet 26 = .ok (.bipush (-14), 2) := by decide +kernel
theorem dX7_sheet_28 : decode cX7_sheet 28 = .ok (.ireturn, 1) := by decide +kernel
theorem dX7_sheet_29 : decode cX7_sheet 29 = .ok (.aload_n 0, 1) := by decide +kernel
theorem dX7_sheet_30 : decode cX7_sheet 30 = .ok (.getfield 52, 3) := by decide +kernel
theorem dX7_sheet_33 : decode cX7_sheet 33 = .ok (.iload_n 1, 1) := by decide +kernel
theorem dX7_sheet_34 : decode cX7_sheet 34 = .ok (.iload_n 2, 1) := by decide +kernel
theorem dX7_sheet_35 : decode cX7_sheet 35 = .ok (.iastore, 1) := by decide +kernel
theorem dX7_sheet_36 : decode cX7_sheet 36 = .ok (.aload_n 0, 1) := by decide +kernel
theorem dX7_sheet_37 : decode cX7_sheet 37 = .ok (.getfield 55, 3) := by decide +kernel
theorem dX7_sheet_40 : decode cX7_sheet 40 = .ok (.iload_n 1, 1) := by decide +kernel
theorem dX7_sheet_41 : decode cX7_sheet 41 = .ok (.iload_n 3, 1) := by decide +kernel
theorem dX7_sheet_42 : decode cX7_sheet 42 = .ok (.iastore, 1) := by decide +kernel
theorem dX7_sheet_43 : decode cX7_sheet 43 = .ok (.iconst 0, 1) := by decide +kernel
theorem dX7_sheet_44 : decode cX7_sheet 44 = .ok (.istore 4, 2) := by decide +kernel
theorem dX7_sheet_46 : decode cX7_sheet 46 = .ok (.iload 4, 2) := by decide +kernel
theorem dX7_sheet_48 : decode cX7_sheet 48 = .ok (.bipush 24, 2) := by decide +kernel
theorem dX7_sheet_50 : decode cX7_sheet 50 = .ok (.if_icmp .ge 22, 3) := by decide +kernel
theorem dX7_sheet_53 : decode cX7_sheet 53 = .ok (.aload_n 0, 1) := by decide +kernel
theorem dX7_sheet_54 : decode cX7_sheet 54 = .ok (.getfield 58, 3) := by decide +kernel
theorem dX7_sheet_57 : decode cX7_sheet 57 = .ok (.bipush 24, 2) := by decide +kernel
theorem dX7_sheet_59 : decode cX7_sheet 59 = .ok (.iload_n 1, 1) := by decide +kernel
theorem dX7_sheet_60 : decode cX7_sheet 60 = .ok (.imul, 1) := by decide +kernel
theorem dX7_sheet_61 : decode cX7_sheet 61 = .ok (.iload 4, 2) := by decide +kernel
theorem dX7_sheet_63 : decode cX7_sheet 63 = .ok (.iadd, 1) := by decide +kernel
theorem dX7_sheet_64 : decode cX7_sheet 64 = .ok (.iconst 0, 1) := by decide +kernel
theorem dX7_sheet_65 : decode cX7_sheet 65 = .ok (.iastore, 1) := by decide +kernel
theorem dX7_sheet_66 : decode cX7_sheet 66 = .ok (.iinc 4 1, 3) := by decide +kernel
theorem dX7_sheet_69 : decode cX7_sheet 69 = .ok (.goto (-23), 3) := by decide +kernel
theorem dX7_sheet_72 : decode cX7_sheet 72 = .ok (.iload_n 3, 1) := by decide +kernel
theorem dX7_sheet_73 : decode cX7_sheet 73 = .ok (.ireturn, 1) := by decide +kernel
theorem dX7_drop_0 : decode cX7_drop 0 = .ok (.iload_n 1, 1) := by decide +kernel
theorem dX7_drop_1 : decode cX7_drop 1 = .ok (.invokestatic 228, 3) := by decide +kernel
theorem dX7_drop_4 : decode cX7_drop 4 = .ok (.ifCond .ne 5, 3) := by decide +kernel
theorem dX7_drop_7 : decode cX7_drop 7 = .ok (.iconst (-1), 1) := by decide +kernel
theorem dX7_drop_8 : decode cX7_drop 8 = .ok (.ireturn, 1) := by decide +kernel
theorem dX7_drop_9 : decode cX7_drop 9 = .ok (.aload_n 0, 1) := by decide +kernel
theorem dX7_drop_10 : decode cX7_drop 10 = .ok (.getfield 52, 3) := by decide +kernel
theorem dX7_drop_13 : decode cX7_drop 13 = .ok (.iload_n 1, 1) := by decide +kernel
theorem dX7_drop_14 : decode cX7_drop 14 = .ok (.iaload, 1) := by decide +kernel
theorem dX7_drop_15 : decode cX7_drop 15 = .ok (.ifCond .ge 6, 3) := by decide +kernel
theorem dX7_drop_18 : decode cX7_drop 18 = .ok (.bipush (-11), 2) := by decide +kernel
theorem dX7_drop_20 : decode cX7_drop 20 = .ok (.ireturn, 1) := by decide +kernel
theorem dX7_drop_21 : decode cX7_drop 21 = .ok (.aload_n 0, 1) := by decide +kernel
theorem dX7_drop_22 : decode cX7_drop 22 = .ok (.getfield 52, 3) := by decide +kernel
theorem dX7_drop_25 : decode cX7_drop 25 = .ok (.iload_n 1, 1) := by decide +kernel
theorem dX7_drop_26 : decode cX7_drop 26 = .ok (.iconst (-1), 1) := by decide +kernel
theorem dX7_drop_27 : decode cX7_drop 27 = .ok (.iastore, 1) := by decide +kernel
theorem dX7_drop_28 : decode cX7_drop 28 = .ok (.aload_n 0, 1) := by decide +kernel
theorem dX7_drop_29 : decode cX7_drop 29 = .ok (.getfield 55, 3) := by decide +kernel
theorem dX7_drop_32 : decode cX7_drop 32 = .ok (.iload_n 1, 1) := by decide +kernel
theorem dX7_drop_33 : decode cX7_drop 33 = .ok (.iaload, 1) := by decide +kernel
theorem dX7_drop_34 : decode cX7_drop 34 = .ok (.ireturn, 1) := by decide +kernel
theorem dX7_item_0 : decode cX7_item 0 = .ok (.iload_n 1, 1) := by decide +kernel
theorem dX7_item_1 : decode cX7_item 1 = .ok (.invokestatic 228, 3) := by decide +kernel
theorem dX7_item_4 : decode cX7_item 4 = .ok (.ifCond .eq 10, 3) := by decide +kernel
theorem dX7_item_7 : decode cX7_item 7 = .ok (.iload_n 2, 1) := by decide +kernel
theorem dX7_item_8 : decode cX7_item 8 = .ok (.invokestatic 231, 3) := by decide +kernel
theorem dX7_item_11 : decode cX7_item 11 = .ok (.ifCond .ne 5, 3) := by decide +kernel
theorem dX7_item_14 : decode cX7_item 14 = .ok (.iconst (-1), 1) := by decide +kernel
theorem dX7_item_15 : decode cX7_item 15 = .ok (.ireturn, 1) := by decide +kernel
theorem dX7_item_16 : decode cX7_item 16 = .ok (.aload_n 0, 1) := by decide +kernel
theorem dX7_item_17 : decode cX7_item 17 = .ok (.iload_n 1, 1) := by decide +kernel
theorem dX7_item_18 : decode cX7_item 18 = .ok (.iload_n 2, 1) := by decide +kernel
theorem dX7_item_19 : decode cX7_item 19 = .ok (.iload_n 3, 1) := by decide +kernel
theorem dX7_item_20 : decode cX7_item 20 = .ok (.iconst 1, 1) := by decide +kernel
theorem dX7_item_21 : decode cX7_item 21 = .ok (.invokevirtual 234, 3) := by decide +kernel
theorem dX7_item_24 : decode cX7_item 24 = .ok (.istore 5, 2) := by decide +kernel
theorem dX7_item_26 : decode cX7_item 26 = .ok (.iload 5, 2) := by decide +kernel
theorem dX7_item_28 : decode cX7_item 28 = .ok (.ifCond .ge 6, 3) := by decide +kernel
theorem dX7_item_31 : decode cX7_item 31 = .ok (.iload 5, 2) := by decide +kernel
theorem dX7_item_33 : decode cX7_item 33 = .ok (.ireturn, 1) := by decide +kernel
theorem dX7_item_34 : decode cX7_item 34 = .ok (.aload_n 0, 1) := by decide +kernel
theorem dX7_item_35 : decode cX7_item 35 = .ok (.getfield 58, 3) := by decide +kernel
theorem dX7_item_38 : decode cX7_item 38 = .ok (.bipush 24, 2) := by decide +kernel
theorem dX7_item_40 : decode cX7_item 40 = .ok (.iload_n 1, 1) := by decide +kernel
theorem dX7_item_41 : decode cX7_item 41 = .ok (.imul, 1) := by decide +kernel
theorem dX7_item_42 : decode cX7_item 42 = .ok (.iload_n 3, 1) := by decide +kernel
theorem dX7_item_43 : decode cX7_item 43 = .ok (.iadd, 1) := by decide +kernel
theorem dX7_item_44 : decode cX7_item 44 = .ok (.iload_n 2, 1) := by decide +kernel
theorem dX7_item_45 : decode cX7_item 45 = .ok (.ifCond .ne 9, 3) := by decide +kernel
theorem dX7_item_48 : decode cX7_item 48 = .ok (.iload 4, 2) := by decide +kernel
theorem dX7_item_50 : decode cX7_item 50 = .ok (.i2b, 1) := by decide +kernel
theorem dX7_item_51 : decode cX7_item 51 = .ok (.goto 16, 3) := by decide +kernel
theorem dX7_item_54 : decode cX7_item 54 = .ok (.iload_n 2, 1) := by decide +kernel
theorem dX7_item_55 : decode cX7_item 55 = .ok (.iconst 1, 1) := by decide +kernel
theorem dX7_item_56 : decode cX7_item 56 = .ok (.if_icmp .ne 9, 3) := by decide +kernel
theorem dX7_item_59 : decode cX7_item 59 = .ok (.iload 4, 2) := by decide +kernel
theorem dX7_item_61 : decode cX7_item 61 = .ok (.i2s, 1) := by decide +kernel
theorem dX7_item_62 : decode cX7_item 62 = .ok (.goto 5, 3) := by decide +kernel
theorem dX7_item_65 : decode cX7_item 65 = .ok (.iload 4, 2) := by decide +kernel
theorem dX7_item_67 : decode cX7_item 67 = .ok (.iastore, 1) := by decide +kernel
theorem dX7_item_68 : decode cX7_item 68 = .ok (.iconst 1, 1) := by decide +kernel
theorem dX7_item_69 : decode cX7_item 69 = .ok (.ireturn, 1) := by decide +kernel
theorem dX7_copy_0 : decode cX7_copy 0 = .ok (.iload_n 1, 1) := by decide +kernel
theorem dX7_copy_1 : decode cX7_copy 1 = .ok (.invokestatic 228, 3) := by decide +kernel
theorem dX7_copy_4 : decode cX7_copy 4 = .ok (.ifCond .eq 10, 3) := by decide +kernel
theorem dX7_copy_7 : decode cX7_copy 7 = .ok (.iload_n 3, 1) := by decide +kernel
theorem dX7_copy_8 : decode cX7_copy 8 = .ok (.invokestatic 228, 3) := by decide +kernel
theorem dX7_copy_11 : decode cX7_copy 11 = .ok (.ifCond .ne 5, 3) := by decide +kernel
theorem dX7_copy_14 : decode cX7_copy 14 = .ok (.iconst (-1), 1) := by decide +kernel
theorem dX7_copy_15 : decode cX7_copy 15 = .ok (.ireturn, 1) := by decide +kernel
theorem dX7_copy_16 : decode cX7_copy 16 = .ok (.aload_n 0, 1) := by decide +kernel
theorem dX7_copy_17 : decode cX7_copy 17 = .ok (.getfield 52, 3) := by decide +kernel
theorem dX7_copy_20 : decode cX7_copy 20 = .ok (.iload_n 1, 1) := by decide +kernel
theorem dX7_copy_21 : decode cX7_copy 21 = .ok (.iaload, 1) := by decide +kernel
theorem dX7_copy_22 : decode cX7_copy 22 = .ok (.ifCond .lt 12, 3) := by decide +kernel
theorem dX7_copy_25 : decode cX7_copy 25 = .ok (.aload_n 0, 1) := by decide +kernel
theorem dX7_copy_26 : decode cX7_copy 26 = .ok (.getfield 52, 3) := by decide +kernel
theorem dX7_copy_29 : decode cX7_copy 29 = .ok (.iload_n 3, 1) := by decide +kernel
theorem dX7_copy_30 : decode cX7_copy 30 = .ok (.iaload, 1) := by decide +kernel
theorem dX7_copy_31 : decode cX7_copy 31 = .ok (.ifCond .ge 6, 3) := by decide +kernel
theorem dX7_copy_34 : decode cX7_copy 34 = .ok (.bipush (-11), 2) := by decide +kernel
theorem dX7_copy_36 : decode cX7_copy 36 = .ok (.ireturn, 1) := by decide +kernel
theorem dX7_copy_37 : decode cX7_copy 37 = .ok (.aload_n 0, 1) := by decide +kernel
theorem dX7_copy_38 : decode cX7_copy 38 = .ok (.getfield 52, 3) := by decide +kernel
theorem dX7_copy_41 : decode cX7_copy 41 = .ok (.iload_n 1, 1) := by decide +kernel
theorem dX7_copy_42 : decode cX7_copy 42 = .ok (.iaload, 1) := by decide +kernel
theorem dX7_copy_43 : decode cX7_copy 43 = .ok (.aload_n 0, 1) := by decide +kernel
theorem dX7_copy_44 : decode cX7_copy 44 = .ok (.getfield 52, 3) := by decide +kernel
theorem dX7_copy_47 : decode cX7_copy 47 = .ok (.iload_n 3, 1) := by decide +kernel
theorem dX7_copy_48 : decode cX7_copy 48 = .ok (.iaload, 1) := by decide +kernel
theorem dX7_copy_49 : decode cX7_copy 49 = .ok (.if_icmp .eq 6, 3) := by decide +kernel
theorem dX7_copy_52 : decode cX7_copy 52 = .ok (.bipush (-12), 2) := by decide +kernel
theorem dX7_copy_54 : decode cX7_copy 54 = .ok (.ireturn, 1) := by decide +kernel
theorem dX7_copy_55 : decode cX7_copy 55 = .ok (.iload 5, 2) := by decide +kernel
theorem dX7_copy_57 : decode cX7_copy 57 = .ok (.ifCond .lt 38, 3) := by decide +kernel
theorem dX7_copy_60 : decode cX7_copy 60 = .ok (.aload_n 0, 1) := by decide +kernel
theorem dX7_copy_61 : decode cX7_copy 61 = .ok (.iload_n 1, 1) := by decide +kernel
theorem dX7_copy_62 : decode cX7_copy 62 = .ok (.aload_n 0, 1) := by decide +kernel
theorem dX7_copy_63 : decode cX7_copy 63 = .ok (.getfield 52, 3) := by decide +kernel
theorem dX7_copy_66 : decode cX7_copy 66 = .ok (.iload_n 1, 1) := by decide +kernel
theorem dX7_copy_67 : decode cX7_copy 67 = .ok (.iaload, 1) := by decide +kernel
theorem dX7_copy_68 : decode cX7_copy 68 = .ok (.iload_n 2, 1) := by decide +kernel
theorem dX7_copy_69 : decode cX7_copy 69 = .ok (.iload 5, 2) := by decide +kernel
theorem dX7_copy_71 : decode cX7_copy 71 = .ok (.invokevirtual 234, 3) := by decide +kernel
theorem dX7_copy_74 : decode cX7_copy 74 = .ok (.ifCond .lt 21, 3) := by decide +kernel
theorem dX7_copy_77 : decode cX7_copy 77 = .ok (.aload_n 0, 1) := by decide +kernel
theorem dX7_copy_78 : decode cX7_copy 78 = .ok (.iload_n 3, 1) := by decide +kernel
theorem dX7_copy_79 : decode cX7_copy 79 = .ok (.aload_n 0, 1) := by decide +kernel
theorem dX7_copy_80 : decode cX7_copy 80 = .ok (.getfield 52, 3) := by decide +kernel
theorem dX7_copy_83 : decode cX7_copy 83 = .ok (.iload_n 3, 1) := by decide +kernel
theorem dX7_copy_84 : decode cX7_copy 84 = .ok (.iaload, 1) := by decide +kernel
theorem dX7_copy_85 : decode cX7_copy 85 = .ok (.iload 4, 2) := by decide +kernel
theorem dX7_copy_87 : decode cX7_copy 87 = .ok (.iload 5, 2) := by decide +kernel
theorem dX7_copy_89 : decode cX7_copy 89 = .ok (.invokevirtual 234, 3) := by decide +kernel
theorem dX7_copy_92 : decode cX7_copy 92 = .ok (.ifCond .ge 6, 3) := by decide +kernel
theorem dX7_copy_95 : decode cX7_copy 95 = .ok (.bipush (-13), 2) := by decide +kernel
theorem dX7_copy_97 : decode cX7_copy 97 = .ok (.ireturn, 1) := by decide +kernel
theorem dX7_copy_98 : decode cX7_copy 98 = .ok (.iconst 0, 1) := by decide +kernel
theorem dX7_copy_99 : decode cX7_copy 99 = .ok (.istore 6, 2) := by decide +kernel
theorem dX7_copy_101 : decode cX7_copy 101 = .ok (.iload 6, 2) := by decide +kernel
theorem dX7_copy_103 : decode cX7_copy 103 = .ok (.iload 5, 2) := by decide +kernel
theorem dX7_copy_105 : decode cX7_copy 105 = .ok (.if_icmp .ge 30, 3) := by decide +kernel
theorem dX7_copy_108 : decode cX7_copy 108 = .ok (.aload_n 0, 1) := by decide +kernel
theorem dX7_copy_109 : decode cX7_copy 109 = .ok (.getfield 61, 3) := by decide +kernel
theorem dX7_copy_112 : decode cX7_copy 112 = .ok (.iload 6, 2) := by decide +kernel
theorem dX7_copy_114 : decode cX7_copy 114 = .ok (.aload_n 0, 1) := by decide +kernel
theorem dX7_copy_115 : decode cX7_copy 115 = .ok (.getfield 58, 3) := by decide +kernel
theorem dX7_copy_118 : decode cX7_copy 118 = .ok (.bipush 24, 2) := by decide +kernel
theorem dX7_copy_120 : decode cX7_copy 120 = .ok (.iload_n 1, 1) := by decide +kernel
theorem dX7_copy_121 : decode cX7_copy 121 = .ok (.imul, 1) := by decide +kernel
theorem dX7_copy_122 : decode cX7_copy 122 = .ok (.iload_n 2, 1) := by decide +kernel
theorem dX7_copy_123 : decode cX7_copy 123 = .ok (.iadd, 1) := by decide +kernel
theorem dX7_copy_124 : decode cX7_copy 124 = .ok (.iload 6, 2) := by decide +kernel
theorem dX7_copy_126 : decode cX7_copy 126 = .ok (.iadd, 1) := by decide +kernel
theorem dX7_copy_127 : decode cX7_copy 127 = .ok (.iaload, 1) := by decide +kernel
theorem dX7_copy_128 : decode cX7_copy 128 = .ok (.iastore, 1) := by decide +kernel
theorem dX7_copy_129 : decode cX7_copy 129 = .ok (.iinc 6 1, 3) := by decide +kernel
theorem dX7_copy_132 : decode cX7_copy 132 = .ok (.goto (-31), 3) := by decide +kernel
theorem dX7_copy_135 : decode cX7_copy 135 = .ok (.iconst 0, 1) := by decide +kernel
theorem dX7_copy_136 : decode cX7_copy 136 = .ok (.istore 6, 2) := by decide +kernel
theorem dX7_copy_138 : decode cX7_copy 138 = .ok (.iload 6, 2) := by decide +kernel
theorem dX7_copy_140 : decode cX7_copy 140 = .ok (.iload 5, 2) := by decide +kernel
theorem dX7_copy_142 : decode cX7_copy 142 = .ok (.if_icmp .ge 31, 3) := by decide +kernel
theorem dX7_copy_145 : decode cX7_copy 145 = .ok (.aload_n 0, 1) := by decide +kernel
theorem dX7_copy_146 : decode cX7_copy 146 = .ok (.getfield 58, 3) := by decide +kernel
theorem dX7_copy_149 : decode cX7_copy 149 = .ok (.bipush 24, 2) := by decide +kernel
theorem dX7_copy_151 : decode cX7_copy 151 = .ok (.iload_n 3, 1) := by decide +kernel
theorem dX7_copy_152 : decode cX7_copy 152 = .ok (.imul, 1) := by decide +kernel
theorem dX7_copy_153 : decode cX7_copy 153 = .ok (.iload 4, 2) := by decide +kernel
theorem dX7_copy_155 : decode cX7_copy 155 = .ok (.iadd, 1) := by decide +kernel
theorem dX7_copy_156 : decode cX7_copy 156 = .ok (.iload 6, 2) := by decide +kernel
theorem dX7_copy_158 : decode cX7_copy 158 = .ok (.iadd, 1) := by decide +kernel
theorem dX7_copy_159 : decode cX7_copy 159 = .ok (.aload_n 0, 1) := by decide +kernel
theorem dX7_copy_160 : decode cX7_copy 160 = .ok (.getfield 61, 3) := by decide +kernel
theorem dX7_copy_163 : decode cX7_copy 163 = .ok (.iload 6, 2) := by decide +kernel
theorem dX7_copy_165 : decode cX7_copy 165 = .ok (.iaload, 1) := by decide +kernel
theorem dX7_copy_166 : decode cX7_copy 166 = .ok (.iastore, 1) := by decide +kernel
theorem dX7_copy_167 : decode cX7_copy 167 = .ok (.iinc 6 1, 3) := by decide +kernel
theorem dX7_copy_170 : decode cX7_copy 170 = .ok (.goto (-32), 3) := by decide +kernel
theorem dX7_copy_173 : decode cX7_copy 173 = .ok (.iload 5, 2) := by decide +kernel
theorem dX7_copy_175 : decode cX7_copy 175 = .ok (.ireturn, 1) := by decide +kernel
