theorem dX14_land_65 : decode cX14_land 65 = .ok (.getfield 103, 3) := by decide +kernel
theorem dX14_land_68 : decode cX14_land 68 = .ok (.aload_n 0, 1) := by decide +kernel
theorem dX14_land_69 : decode cX14_land 69 = .ok (.getfield 377, 3) := by decide +kernel
theorem dX14_land_72 : decode cX14_land 72 = .ok (.iload_n 1, 1) := by decide +kernel
theorem dX14_land_73 : decode cX14_land 73 = .ok (.iastore, 1) := by decide +kernel
theorem dX14_land_74 : decode cX14_land 74 = .ok (.aload_n 0, 1) := by decide +kernel
theorem dX14_land_75 : decode cX14_land 75 = .ok (.getfield 106, 3) := by decide +kernel
theorem dX14_land_78 : decode cX14_land 78 = .ok (.aload_n 0, 1) := by decide +kernel
theorem dX14_land_79 : decode cX14_land 79 = .ok (.getfield 377, 3) := by decide +kernel
theorem dX14_land_82 : decode cX14_land 82 = .ok (.iload_n 2, 1) := by decide +kernel
theorem dX14_land_83 : decode cX14_land 83 = .ok (.iastore, 1) := by decide +kernel
theorem dX14_land_84 : decode cX14_land 84 = .ok (.aload_n 0, 1) := by decide +kernel
theorem dX14_land_85 : decode cX14_land 85 = .ok (.getfield 109, 3) := by decide +kernel
theorem dX14_land_88 : decode cX14_land 88 = .ok (.aload_n 0, 1) := by decide +kernel
theorem dX14_land_89 : decode cX14_land 89 = .ok (.getfield 377, 3) := by decide +kernel
theorem dX14_land_92 : decode cX14_land 92 = .ok (.iload_n 3, 1) := by decide +kernel
theorem dX14_land_93 : decode cX14_land 93 = .ok (.iastore, 1) := by decide +kernel
theorem dX14_land_94 : decode cX14_land 94 = .ok (.aload_n 0, 1) := by decide +kernel
theorem dX14_land_95 : decode cX14_land 95 = .ok (.dup, 1) := by decide +kernel
theorem dX14_land_96 : decode cX14_land 96 = .ok (.getfield 377, 3) := by decide +kernel
theorem dX14_land_99 : decode cX14_land 99 = .ok (.iconst 1, 1) := by decide +kernel
theorem dX14_land_100 : decode cX14_land 100 = .ok (.iadd, 1) := by decide +kernel
theorem dX14_land_101 : decode cX14_land 101 = .ok (.putfield 377, 3) := by decide +kernel
theorem dX14_land_104 : decode cX14_land 104 = .ok (.aload_n 0, 1) := by decide +kernel
theorem dX14_land_105 : decode cX14_land 105 = .ok (.aload_n 0, 1) := by decide +kernel
theorem dX14_land_106 : decode cX14_land 106 = .ok (.getfield 377, 3) := by decide +kernel
theorem dX14_land_109 : decode cX14_land 109 = .ok (.iconst 1, 1) := by decide +kernel
theorem dX14_land_110 : decode cX14_land 110 = .ok (.isub, 1) := by decide +kernel
theorem dX14_land_111 : decode cX14_land 111 = .ok (.invokevirtual 125, 3) := by decide +kernel
theorem dX14_land_114 : decode cX14_land 114 = .ok (.ireturn, 1) := by decide +kernel
theorem dX14_dole_0 : decode cX14_dole 0 = .ok (.aload_n 0, 1) := by decide +kernel
theorem dX14_dole_1 : decode cX14_dole 1 = .ok (.iconst 0, 1) := by decide +kernel
theorem dX14_dole_2 : decode cX14_dole 2 = .ok (.putfield 112, 3) := by decide +kernel
theorem dX14_dole_5 : decode cX14_dole 5 = .ok (.iload_n 1, 1) := by decide +kernel
theorem dX14_dole_6 : decode cX14_dole 6 = .ok (.iconst 0, 1) := by decide +kernel
theorem dX14_dole_7 : decode cX14_dole 7 = .ok (.sipush 999, 3) := by decide +kernel
theorem dX14_dole_10 : decode cX14_dole 10 = .ok (.invokestatic 231, 3) := by decide +kernel
theorem dX14_dole_13 : decode cX14_dole 13 = .ok (.ifCond .ne 9, 3) := by decide +kernel
theorem dX14_dole_16 : decode cX14_dole 16 = .ok (.aload_n 0, 1) := by decide +kernel
theorem dX14_dole_17 : decode cX14_dole 17 = .ok (.iconst 2, 1) := by decide +kernel
theorem dX14_dole_18 : decode cX14_dole 18 = .ok (.invokevirtual 361, 3) := by decide +kernel
theorem dX14_dole_21 : decode cX14_dole 21 = .ok (.ireturn, 1) := by decide +kernel
theorem dX14_dole_22 : decode cX14_dole 22 = .ok (.aload_n 0, 1) := by decide +kernel
theorem dX14_dole_23 : decode cX14_dole 23 = .ok (.iload_n 1, 1) := by decide +kernel
theorem dX14_dole_24 : decode cX14_dole 24 = .ok (.putfield 100, 3) := by decide +kernel
theorem dX14_dole_27 : decode cX14_dole 27 = .ok (.aload_n 0, 1) := by decide +kernel
theorem dX14_dole_28 : decode cX14_dole 28 = .ok (.invokevirtual 364, 3) := by decide +kernel
theorem dX14_dole_31 : decode cX14_dole 31 = .ok (.ireturn, 1) := by decide +kernel
theorem dX14_day_0 : decode cX14_day 0 = .ok (.aload_n 0, 1) := by decide +kernel
theorem dX14_day_1 : decode cX14_day 1 = .ok (.dup, 1) := by decide +kernel
theorem dX14_day_2 : decode cX14_day 2 = .ok (.getfield 312, 3) := by decide +kernel
theorem dX14_day_5 : decode cX14_day 5 = .ok (.iconst 1, 1) := by decide +kernel
theorem dX14_day_6 : decode cX14_day 6 = .ok (.iadd, 1) := by decide +kernel
theorem dX14_day_7 : decode cX14_day 7 = .ok (.putfield 312, 3) := by decide +kernel
theorem dX14_day_10 : decode cX14_day 10 = .ok (.iconst 0, 1) := by decide +kernel
theorem dX14_day_11 : decode cX14_day 11 = .ok (.istore_n 1, 1) := by decide +kernel
theorem dX14_day_12 : decode cX14_day 12 = .ok (.iload_n 1, 1) := by decide +kernel
theorem dX14_day_13 : decode cX14_day 13 = .ok (.aload_n 0, 1) := by decide +kernel
theorem dX14_day_14 : decode cX14_day 14 = .ok (.getfield 377, 3) := by decide +kernel
theorem dX14_day_17 : decode cX14_day 17 = .ok (.if_icmp .ge 91, 3) := by decide +kernel
theorem dX14_day_20 : decode cX14_day 20 = .ok (.aload_n 0, 1) := by decide +kernel
theorem dX14_day_21 : decode cX14_day 21 = .ok (.getfield 312, 3) := by decide +kernel
theorem dX14_day_24 : decode cX14_day 24 = .ok (.aload_n 0, 1) := by decide +kernel
theorem dX14_day_25 : decode cX14_day 25 = .ok (.getfield 109, 3) := by decide +kernel
theorem dX14_day_28 : decode cX14_day 28 = .ok (.iload_n 1, 1) := by decide +kernel
theorem dX14_day_29 : decode cX14_day 29 = .ok (.iaload, 1) := by decide +kernel
theorem dX14_day_30 : decode cX14_day 30 = .ok (.if_icmp .lt 72, 3) := by decide +kernel
theorem dX14_day_33 : decode cX14_day 33 = .ok (.aload_n 0, 1) := by decide +kernel
theorem dX14_day_34 : decode cX14_day 34 = .ok (.getfield 312, 3) := by decide +kernel
theorem dX14_day_37 : decode cX14_day 37 = .ok (.aload_n 0, 1) := by decide +kernel
theorem dX14_day_38 : decode cX14_day 38 = .ok (.getfield 109, 3) := by decide +kernel
theorem dX14_day_41 : decode cX14_day 41 = .ok (.iload_n 1, 1) := by decide +kernel
theorem dX14_day_42 : decode cX14_day 42 = .ok (.iaload, 1) := by decide +kernel
theorem dX14_day_43 : decode cX14_day 43 = .ok (.isub, 1) := by decide +kernel
theorem dX14_day_44 : decode cX14_day 44 = .ok (.aload_n 0, 1) := by decide +kernel
theorem dX14_day_45 : decode cX14_day 45 = .ok (.getfield 106, 3) := by decide +kernel
theorem dX14_day_48 : decode cX14_day 48 = .ok (.iload_n 1, 1) := by decide +kernel
theorem dX14_day_49 : decode cX14_day 49 = .ok (.iaload, 1) := by decide +kernel
theorem dX14_day_50 : decode cX14_day 50 = .ok (.irem, 1) := by decide +kernel
theorem dX14_day_51 : decode cX14_day 51 = .ok (.ifCond .eq 6, 3) := by decide +kernel
theorem dX14_day_54 : decode cX14_day 54 = .ok (.goto 48, 3) := by decide +kernel
theorem dX14_day_57 : decode cX14_day 57 = .ok (.aload_n 0, 1) := by decide +kernel
theorem dX14_day_58 : decode cX14_day 58 = .ok (.ldc_w 380, 3) := by decide +kernel
theorem dX14_day_61 : decode cX14_day 61 = .ok (.aload_n 0, 1) := by decide +kernel
theorem dX14_day_62 : decode cX14_day 62 = .ok (.getfield 381, 3) := by decide +kernel
theorem dX14_day_65 : decode cX14_day 65 = .ok (.aload_n 0, 1) := by decide +kernel
theorem dX14_day_66 : decode cX14_day 66 = .ok (.getfield 103, 3) := by decide +kernel
theorem dX14_day_69 : decode cX14_day 69 = .ok (.iload_n 1, 1) := by decide +kernel
theorem dX14_day_70 : decode cX14_day 70 = .ok (.iaload, 1) := by decide +kernel
theorem dX14_day_71 : decode cX14_day 71 = .ok (.iadd, 1) := by decide +kernel
theorem dX14_day_72 : decode cX14_day 72 = .ok (.invokestatic 384, 3) := by decide +kernel
theorem dX14_day_75 : decode cX14_day 75 = .ok (.putfield 381, 3) := by decide +kernel
theorem dX14_day_78 : decode cX14_day 78 = .ok (.aload_n 0, 1) := by decide +kernel
theorem dX14_day_79 : decode cX14_day 79 = .ok (.ldc2_w 387, 3) := by decide +kernel
theorem dX14_day_82 : decode cX14_day 82 = .ok (.aload_n 0, 1) := by decide +kernel
theorem dX14_day_83 : decode cX14_day 83 = .ok (.getfield 389, 3) := by decide +kernel
theorem dX14_day_86 : decode cX14_day 86 = .ok (.i2l, 1) := by decide +kernel
theorem dX14_day_87 : decode cX14_day 87 = .ok (.aload_n 0, 1) := by decide +kernel
theorem dX14_day_88 : decode cX14_day 88 = .ok (.getfield 103, 3) := by decide +kernel
theorem dX14_day_91 : decode cX14_day 91 = .ok (.iload_n 1, 1) := by decide +kernel
theorem dX14_day_92 : decode cX14_day 92 = .ok (.iaload, 1) := by decide +kernel
theorem dX14_day_93 : decode cX14_day 93 = .ok (.i2l, 1) := by decide +kernel
theorem dX14_day_94 : decode cX14_day 94 = .ok (.ladd, 1) := by decide +kernel
theorem dX14_day_95 : decode cX14_day 95 = .ok (.invokestatic 392, 3) := by decide +kernel
theorem dX14_day_98 : decode cX14_day 98 = .ok (.l2i, 1) := by decide +kernel
theorem dX14_day_99 : decode cX14_day 99 = .ok (.putfield 389, 3) := by decide +kernel
theorem dX14_day_102 : decode cX14_day 102 = .ok (.iinc 1 1, 3) := by decide +kernel
theorem dX14_day_105 : decode cX14_day 105 = .ok (.goto (-93), 3) := by decide +kernel
theorem dX14_day_108 : decode cX14_day 108 = .ok (.iconst 0, 1) := by decide +kernel
theorem dX14_day_109 : decode cX14_day 109 = .ok (.istore_n 1, 1) := by decide +kernel
theorem dX14_day_110 : decode cX14_day 110 = .ok (.iload_n 1, 1) := by decide +kernel
theorem dX14_day_111 : decode cX14_day 111 = .ok (.aload_n 0, 1) := by decide +kernel
theorem dX14_day_112 : decode cX14_day 112 = .ok (.getfield 355, 3) := by decide +kernel
theorem dX14_day_115 : decode cX14_day 115 = .ok (.if_icmp .ge 98, 3) := by decide +kernel
theorem dX14_day_118 : decode cX14_day 118 = .ok (.aload_n 0, 1) := by decide +kernel
theorem dX14_day_119 : decode cX14_day 119 = .ok (.getfield 312, 3) := by decide +kernel
theorem dX14_day_122 : decode cX14_day 122 = .ok (.bipush 7, 2) := by decide +kernel
theorem dX14_day_124 : decode cX14_day 124 = .ok (.irem, 1) := by decide +kernel
theorem dX14_day_125 : decode cX14_day 125 = .ok (.ifCond .ne 88, 3) := by decide +kernel
theorem dX14_day_128 : decode cX14_day 128 = .ok (.aload_n 0, 1) := by decide +kernel
theorem dX14_day_129 : decode cX14_day 129 = .ok (.getfield 79, 3) := by decide +kernel
theorem dX14_day_132 : decode cX14_day 132 = .ok (.iload_n 1, 1) := by decide +kernel
theorem dX14_day_133 : decode cX14_day 133 = .ok (.iaload, 1) := by decide +kernel
theorem dX14_day_134 : decode cX14_day 134 = .ok (.iconst (-1), 1) := by decide +kernel
theorem dX14_day_135 : decode cX14_day 135 = .ok (.if_icmp .ne 6, 3) := by decide +kernel
theorem dX14_day_138 : decode cX14_day 138 = .ok (.goto 69, 3) := by decide +kernel
theorem dX14_day_141 : decode cX14_day 141 = .ok (.aload_n 0, 1) := by decide +kernel
theorem dX14_day_142 : decode cX14_day 142 = .ok (.getfield 88, 3) := by decide +kernel
theorem dX14_day_145 : decode cX14_day 145 = .ok (.aload_n 0, 1) := by decide +kernel
theorem dX14_day_146 : decode cX14_day 146 = .ok (.getfield 79, 3) := by decide +kernel
theorem dX14_day_149 : decode cX14_day 149 = .ok (.iload_n 1, 1) := by decide +kernel
theorem dX14_day_150 : decode cX14_day 150 = .ok (.iaload, 1) := by decide +kernel
theorem dX14_day_151 : decode cX14_day 151 = .ok (.iaload, 1) := by decide +kernel
theorem dX14_day_152 : decode cX14_day 152 = .ok (.istore_n 2, 1) := by decide +kernel
theorem dX14_day_153 : decode cX14_day 153 = .ok (.aload_n 0, 1) := by decide +kernel
theorem dX14_day_154 : decode cX14_day 154 = .ok (.getfield 100, 3) := by decide +kernel
theorem dX14_day_157 : decode cX14_day 157 = .ok (.aload_n 0, 1) := by decide +kernel
theorem dX14_day_158 : decode cX14_day 158 = .ok (.getfield 48, 3) := by decide +kernel
theorem dX14_day_161 : decode cX14_day 161 = .ok (.iload_n 2, 1) := by decide +kernel
theorem dX14_day_162 : decode cX14_day 162 = .ok (.iaload, 1) := by decide +kernel
theorem dX14_day_163 : decode cX14_day 163 = .ok (.iadd, 1) := by decide +kernel
theorem dX14_day_164 : decode cX14_day 164 = .ok (.istore_n 3, 1) := by decide +kernel
theorem dX14_day_165 : decode cX14_day 165 = .ok (.iload_n 3, 1) := by decide +kernel
theorem dX14_day_166 : decode cX14_day 166 = .ok (.aload_n 0, 1) := by decide +kernel
theorem dX14_day_167 : decode cX14_day 167 = .ok (.getfield 381, 3) := by decide +kernel
theorem dX14_day_170 : decode cX14_day 170 = .ok (.invokestatic 384, 3) := by decide +kernel
theorem dX14_day_173 : decode cX14_day 173 = .ok (.istore 4, 2) := by decide +kernel
theorem dX14_day_175 : decode cX14_day 175 = .ok (.aload_n 0, 1) := by decide +kernel
theorem dX14_day_176 : decode cX14_day 176 = .ok (.dup, 1) := by decide +kernel
theorem dX14_day_177 : decode cX14_day 177 = .ok (.getfield 381, 3) := by decide +kernel
theorem dX14_day_180 : decode cX14_day 180 = .ok (.iload 4, 2) := by decide +kernel
theorem dX14_day_182 : decode cX14_day 182 = .ok (.isub, 1) := by decide +kernel
theorem dX14_day_183 : decode cX14_day 183 = .ok (.putfield 381, 3) := by decide +kernel
theorem dX14_day_186 : decode cX14_day 186 = .ok (.aload_n 0, 1) := by decide +kernel
theorem dX14_day_187 : decode cX14_day 187 = .ok (.getfield 51, 3) := by decide +kernel
theorem dX14_day_190 : decode cX14_day 190 = .ok (.iload_n 2, 1) := by decide +kernel
theorem dX14_day_191 : decode cX14_day 191 = .ok (.dup2, 1) := by decide +kernel
theorem dX14_day_192 : decode cX14_day 192 = .ok (.iaload, 1) := by decide +kernel
theorem dX14_day_193 : decode cX14_day 193 = .ok (.iload 4, 2) := by decide +kernel
theorem dX14_day_195 : decode cX14_day 195 = .ok (.iadd, 1) := by decide +kernel
theorem dX14_day_196 : decode cX14_day 196 = .ok (.iastore, 1) := by decide +kernel
theorem dX14_day_197 : decode cX14_day 197 = .ok (.aload_n 0, 1) := by decide +kernel
theorem dX14_day_198 : decode cX14_day 198 = .ok (.getfield 48, 3) := by decide +kernel
theorem dX14_day_201 : decode cX14_day 201 = .ok (.iload_n 2, 1) := by decide +kernel
theorem dX14_day_202 : decode cX14_day 202 = .ok (.iload_n 3, 1) := by decide +kernel
theorem dX14_day_203 : decode cX14_day 203 = .ok (.iload 4, 2) := by decide +kernel
theorem dX14_day_205 : decode cX14_day 205 = .ok (.isub, 1) := by decide +kernel
theorem dX14_day_206 : decode cX14_day 206 = .ok (.iastore, 1) := by decide +kernel
theorem dX14_day_207 : decode cX14_day 207 = .ok (.iinc 1 1, 3) := by decide +kernel
theorem dX14_day_210 : decode cX14_day 210 = .ok (.goto (-100), 3) := by decide +kernel
theorem dX14_day_213 : decode cX14_day 213 = .ok (.return_, 1) := by decide +kernel
theorem dX14_pass_0 : decode cX14_pass 0 = .ok (.aload_n 0, 1) := by decide +kernel
theorem dX14_pass_1 : decode cX14_pass 1 = .ok (.iconst 0, 1) := by decide +kernel
theorem dX14_pass_2 : decode cX14_pass 2 = .ok (.putfield 112, 3) := by decide +kernel
theorem dX14_pass_5 : decode cX14_pass 5 = .ok (.iload_n 1, 1) := by decide +kernel
theorem dX14_pass_6 : decode cX14_pass 6 = .ok (.iconst 1, 1) := by decide +kernel
theorem dX14_pass_7 : decode cX14_pass 7 = .ok (.sipush 400, 3) := by decide +kernel
theorem dX14_pass_10 : decode cX14_pass 10 = .ok (.invokestatic 231, 3) := by decide +kernel
theorem dX14_pass_13 : decode cX14_pass 13 = .ok (.ifCond .eq 15, 3) := by decide +kernel
theorem dX14_pass_16 : decode cX14_pass 16 = .ok (.aload_n 0, 1) := by decide +kernel
theorem dX14_pass_17 : decode cX14_pass 17 = .ok (.getfield 312, 3) := by decide +kernel
theorem dX14_pass_20 : decode cX14_pass 20 = .ok (.iload_n 1, 1) := by decide +kernel
theorem dX14_pass_21 : decode cX14_pass 21 = .ok (.iadd, 1) := by decide +kernel
theorem dX14_pass_22 : decode cX14_pass 22 = .ok (.ldc_w 273, 3) := by decide +kernel
theorem dX14_pass_25 : decode cX14_pass 25 = .ok (.if_icmp .le 9, 3) := by decide +kernel
theorem dX14_pass_28 : decode cX14_pass 28 = .ok (.aload_n 0, 1) := by decide +kernel
theorem dX14_pass_29 : decode cX14_pass 29 = .ok (.iconst 2, 1) := by decide +kernel
theorem dX14_pass_30 : decode cX14_pass 30 = .ok (.invokevirtual 121, 3) := by decide +kernel
theorem dX14_pass_33 : decode cX14_pass 33 = .ok (.ireturn, 1) := by decide +kernel
theorem dX14_pass_34 : decode cX14_pass 34 = .ok (.iconst 0, 1) := by decide +kernel
theorem dX14_pass_35 : decode cX14_pass 35 = .ok (.istore_n 2, 1) := by decide +kernel
theorem dX14_pass_36 : decode cX14_pass 36 = .ok (.iload_n 2, 1) := by decide +kernel
theorem dX14_pass_37 : decode cX14_pass 37 = .ok (.iload_n 1, 1) := by decide +kernel
theorem dX14_pass_38 : decode cX14_pass 38 = .ok (.if_icmp .ge 13, 3) := by decide +kernel
theorem dX14_pass_41 : decode cX14_pass 41 = .ok (.aload_n 0, 1) := by decide +kernel
theorem dX14_pass_42 : decode cX14_pass 42 = .ok (.invokevirtual 395, 3) := by decide +kernel
theorem dX14_pass_45 : decode cX14_pass 45 = .ok (.iinc 2 1, 3) := by decide +kernel
theorem dX14_pass_48 : decode cX14_pass 48 = .ok (.goto (-12), 3) := by decide +kernel
theorem dX14_pass_51 : decode cX14_pass 51 = .ok (.aload_n 0, 1) := by decide +kernel
theorem dX14_pass_52 : decode cX14_pass 52 = .ok (.aload_n 0, 1) := by decide +kernel
theorem dX14_pass_53 : decode cX14_pass 53 = .ok (.getfield 312, 3) := by decide +kernel
theorem dX14_pass_56 : decode cX14_pass 56 = .ok (.invokevirtual 125, 3) := by decide +kernel
theorem dX14_pass_59 : decode cX14_pass 59 = .ok (.ireturn, 1) := by decide +kernel
theorem dX14_owed_0 : decode cX14_owed 0 = .ok (.aload_n 0, 1) := by decide +kernel
theorem dX14_owed_1 : decode cX14_owed 1 = .ok (.iconst 0, 1) := by decide +kernel
theorem dX14_owed_2 : decode cX14_owed 2 = .ok (.putfield 112, 3) := by decide +kernel
theorem dX14_owed_5 : decode cX14_owed 5 = .ok (.aload_n 0, 1) := by decide +kernel
theorem dX14_owed_6 : decode cX14_owed 6 = .ok (.iload_n 1, 1) := by decide +kernel
theorem dX14_owed_7 : decode cX14_owed 7 = .ok (.invokevirtual 315, 3) := by decide +kernel
theorem dX14_owed_10 : decode cX14_owed 10 = .ok (.ifCond .eq 12, 3) := by decide +kernel
theorem dX14_owed_13 : decode cX14_owed 13 = .ok (.aload_n 0, 1) := by decide +kernel
theorem dX14_owed_14 : decode cX14_owed 14 = .ok (.getfield 48, 3) := by decide +kernel
theorem dX14_owed_17 : decode cX14_owed 17 = .ok (.iload_n 1, 1) := by decide +kernel
theorem dX14_owed_18 : decode cX14_owed 18 = .ok (.iaload, 1) := by decide +kernel
theorem dX14_owed_19 : decode cX14_owed 19 = .ok (.goto 4, 3) := by decide +kernel
theorem dX14_owed_22 : decode cX14_owed 22 = .ok (.iconst (-1), 1) := by decide +kernel
theorem dX14_owed_23 : decode cX14_owed 23 = .ok (.ireturn, 1) := by decide +kernel
theorem dX14_got_0 : decode cX14_got 0 = .ok (.aload_n 0, 1) := by decide +kernel
theorem dX14_got_1 : decode cX14_got 1 = .ok (.iconst 0, 1) := by decide +kernel
theorem dX14_got_2 : decode cX14_got 2 = .ok (.putfield 112, 3) := by decide +kernel
theorem dX14_got_5 : decode cX14_got 5 = .ok (.aload_n 0, 1) := by decide +kernel
theorem dX14_got_6 : decode cX14_got 6 = .ok (.iload_n 1, 1) := by decide +kernel
theorem dX14_got_7 : decode cX14_got 7 = .ok (.invokevirtual 315, 3) := by decide +kernel
theorem dX14_got_10 : decode cX14_got 10 = .ok (.ifCond .eq 12, 3) := by decide +kernel
theorem dX14_got_13 : decode cX14_got 13 = .ok (.aload_n 0, 1) := by decide +kernel
theorem dX14_got_14 : decode cX14_got 14 = .ok (.getfield 51, 3) := by decide +kernel
theorem dX14_got_17 : decode cX14_got 17 = .ok (.iload_n 1, 1) := by decide +kernel
theorem dX14_got_18 : decode cX14_got 18 = .ok (.iaload, 1) := by decide +kernel
theorem dX14_got_19 : decode cX14_got 19 = .ok (.goto 4, 3) := by decide +kernel
theorem dX14_got_22 : decode cX14_got 22 = .ok (.iconst (-1), 1) := by decide +kernel
theorem dX14_got_23 : decode cX14_got 23 = .ok (.ireturn, 1) := by decide +kernel
theorem dX14_count_0 : decode cX14_count 0 = .ok (.aload_n 0, 1) := by decide +kernel
theorem dX14_count_1 : decode cX14_count 1 = .ok (.iconst 0, 1) := by decide +kernel
theorem dX14_count_2 : decode cX14_count 2 = .ok (.putfield 112, 3) := by decide +kernel
theorem dX14_count_5 : decode cX14_count 5 = .ok (.iload_n 1, 1) := by decide +kernel
theorem dX14_count_6 : decode cX14_count 6 = .ok (.tableswitch 155 0 11 #[62, 67, 72, 77, 82, 120, 125, 130, 135, 140, 145, 150], 62) := by decide +kernel
theorem dX14_count_68 : decode cX14_count 68 = .ok (.aload_n 0, 1) := by decide +kernel
theorem dX14_count_69 : decode cX14_count 69 = .ok (.getfield 118, 3) := by decide +kernel
theorem dX14_count_72 : decode cX14_count 72 = .ok (.ireturn, 1) := by decide +kernel
theorem dX14_count_73 : decode cX14_count 73 = .ok (.aload_n 0, 1) := by decide +kernel
theorem dX14_count_74 : decode cX14_count 74 = .ok (.getfield 283, 3) := by decide +kernel
theorem dX14_count_77 : decode cX14_count 77 = .ok (.ireturn, 1) := by decide +kernel
theorem dX14_count_78 : decode cX14_count 78 = .ok (.aload_n 0, 1) := by decide +kernel
theorem dX14_count_79 : decode cX14_count 79 = .ok (.getfield 308, 3) := by decide +kernel
theorem dX14_count_82 : decode cX14_count 82 = .ok (.ireturn, 1) := by decide +kernel
theorem dX14_count_83 : decode cX14_count 83 = .ok (.aload_n 0, 1) := by decide +kernel
theorem dX14_count_84 : decode cX14_count 84 = .ok (.getfield 355, 3) := by decide +kernel
theorem dX14_count_87 : decode cX14_count 87 = .ok (.ireturn, 1) := by decide +kernel
theorem dX14_count_88 : decode cX14_count 88 = .ok (.iconst 0, 1) := by decide +kernel
theorem dX14_count_89 : decode cX14_count 89 = .ok (.istore_n 2, 1) := by decide +kernel
theorem dX14_count_90 : decode cX14_count 90 = .ok (.iconst 0, 1) := by decide +kernel
theorem dX14_count_91 : decode cX14_count 91 = .ok (.istore_n 3, 1) := by decide +kernel
theorem dX14_count_92 : decode cX14_count 92 = .ok (.iload_n 3, 1) := by decide +kernel
theorem dX14_count_93 : decode cX14_count 93 = .ok (.aload_n 0, 1) := by decide +kernel
theorem dX14_count_94 : decode cX14_count 94 = .ok (.getfield 355, 3) := by decide +kernel
theorem dX14_count_97 : decode cX14_count 97 = .ok (.if_icmp .ge 27, 3) := by decide +kernel
theorem dX14_count_100 : decode cX14_count 100 = .ok (.iload_n 2, 1) := by decide +kernel
theorem dX14_count_101 : decode cX14_count 101 = .ok (.aload_n 0, 1) := by decide +kernel
theorem dX14_count_102 : decode cX14_count 102 = .ok (.getfield 79, 3) := by decide +kernel
theorem dX14_count_105 : decode cX14_count 105 = .ok (.iload_n 3, 1) := by decide +kernel
theorem dX14_count_106 : decode cX14_count 106 = .ok (.iaload, 1) := by decide +kernel
theorem dX14_count_107 : decode cX14_count 107 = .ok (.iconst (-1), 1) := by decide +kernel
theorem dX14_count_108 : decode cX14_count 108 = .ok (.if_icmp .ne 7, 3) := by decide +kernel
theorem dX14_count_111 : decode cX14_count 111 = .ok (.iconst 1, 1) := by decide +kernel
theorem dX14_count_112 : decode cX14_count 112 = .ok (.goto 4, 3) := by decide +kernel
theorem dX14_count_115 : decode cX14_count 115 = .ok (.iconst 0, 1) := by decide +kernel
theorem dX14_count_116 : decode cX14_count 116 = .ok (.iadd, 1) := by decide +kernel
theorem dX14_count_117 : decode cX14_count 117 = .ok (.istore_n 2, 1) := by decide +kernel
theorem dX14_count_118 : decode cX14_count 118 = .ok (.iinc 3 1, 3) := by decide +kernel
theorem dX14_count_121 : decode cX14_count 121 = .ok (.goto (-29), 3) := by decide +kernel
theorem dX14_count_124 : decode cX14_count 124 = .ok (.iload_n 2, 1) := by decide +kernel
theorem dX14_count_125 : decode cX14_count 125 = .ok (.ireturn, 1) := by decide +kernel
theorem dX14_count_126 : decode cX14_count 126 = .ok (.aload_n 0, 1) := by decide +kernel
theorem dX14_count_127 : decode cX14_count 127 = .ok (.getfield 358, 3) := by decide +kernel
theorem dX14_count_130 : decode cX14_count 130 = .ok (.ireturn, 1) := by decide +kernel
theorem dX14_count_131 : decode cX14_count 131 = .ok (.aload_n 0, 1) := by decide +kernel
theorem dX14_count_132 : decode cX14_count 132 = .ok (.getfield 73, 3) := by decide +kernel
theorem dX14_count_135 : decode cX14_count 135 = .ok (.ireturn, 1) := by decide +kernel
theorem dX14_count_136 : decode cX14_count 136 = .ok (.aload_n 0, 1) := by decide +kernel
theorem dX14_count_137 : decode cX14_count 137 = .ok (.getfield 312, 3) := by decide +kernel
theorem dX14_count_140 : decode cX14_count 140 = .ok (.ireturn, 1) := by decide +kernel
theorem dX14_count_141 : decode cX14_count 141 = .ok (.aload_n 0, 1) := by decide +kernel
theorem dX14_count_142 : decode cX14_count 142 = .ok (.getfield 381, 3) := by decide +kernel
theorem dX14_count_145 : decode cX14_count 145 = .ok (.ireturn, 1) := by decide +kernel
theorem dX14_count_146 : decode cX14_count 146 = .ok (.aload_n 0, 1) := by decide +kernel
theorem dX14_count_147 : decode cX14_count 147 = .ok (.getfield 389, 3) := by decide +kernel
theorem dX14_count_150 : decode cX14_count 150 = .ok (.ireturn, 1) := by decide +kernel
theorem dX14_count_151 : decode cX14_count 151 = .ok (.aload_n 0, 1) := by decide +kernel
theorem dX14_count_152 : decode cX14_count 152 = .ok (.getfield 377, 3) := by decide +kernel
theorem dX14_count_155 : decode cX14_count 155 = .ok (.ireturn, 1) := by decide +kernel
theorem dX14_count_156 : decode cX14_count 156 = .ok (.aload_n 0, 1) := by decide +kernel
theorem dX14_count_157 : decode cX14_count 157 = .ok (.getfield 270, 3) := by decide +kernel
theorem dX14_count_160 : decode cX14_count 160 = .ok (.ireturn, 1) := by decide +kernel
theorem dX14_count_161 : decode cX14_count 161 = .ok (.iconst (-1), 1) := by decide +kernel
theorem dX14_count_162 : decode cX14_count 162 = .ok (.ireturn, 1) := by decide +kernel
theorem dX14_trouble_0 : decode cX14_trouble 0 = .ok (.aload_n 0, 1) := by decide +kernel
theorem dX14_trouble_1 : decode cX14_trouble 1 = .ok (.iconst 0, 1) := by decide +kernel
theorem dX14_trouble_2 : decode cX14_trouble 2 = .ok (.putfield 112, 3) := by decide +kernel
theorem dX14_trouble_5 : decode cX14_trouble 5 = .ok (.aload_n 0, 1) := by decide +kernel
theorem dX14_trouble_6 : decode cX14_trouble 6 = .ok (.getfield 115, 3) := by decide +kernel
theorem dX14_trouble_9 : decode cX14_trouble 9 = .ok (.ireturn, 1) := by decide +kernel
theorem dJ9_max_7cf53_0 : decode cJ9_max_7cf53 0 = .ok (.iload_n 0, 1) := by decide +kernel
theorem dJ9_max_7cf53_1 : decode cJ9_max_7cf53 1 = .ok (.iload_n 1, 1) := by decide +kernel
theorem dJ9_max_7cf53_2 : decode cJ9_max_7cf53 2 = .ok (.if_icmp .lt 7, 3) := by decide +kernel
theorem dJ9_max_7cf53_5 : decode cJ9_max_7cf53 5 = .ok (.iload_n 0, 1) := by decide +kernel
theorem dJ9_max_7cf53_6 : decode cJ9_max_7cf53 6 = .ok (.goto 4, 3) := by decide +kernel
theorem dJ9_max_7cf53_9 : decode cJ9_max_7cf53 9 = .ok (.iload_n 1, 1) := by decide +kernel
theorem dJ9_max_7cf53_10 : decode cJ9_max_7cf53 10 = .ok (.ireturn, 1) := by decide +kernel
theorem dJ9_min_7cf53_0 : decode cJ9_min_7cf53 0 = .ok (.iload_n 0, 1) := by decide +kernel
theorem dJ9_min_7cf53_1 : decode cJ9_min_7cf53 1 = .ok (.iload_n 1, 1) := by decide +kernel
theorem dJ9_min_7cf53_2 : decode cJ9_min_7cf53 2 = .ok (.if_icmp .gt 7, 3) := by decide +kernel
theorem dJ9_min_7cf53_5 : decode cJ9_min_7cf53 5 = .ok (.iload_n 0, 1) := by decide +kernel
theorem dJ9_min_7cf53_6 : decode cJ9_min_7cf53 6 = .ok (.goto 4, 3) := by decide +kernel
theorem dJ9_min_7cf53_9 : decode cJ9_min_7cf53 9 = .ok (.iload_n 1, 1) := by decide +kernel
theorem dJ9_min_7cf53_10 : decode cJ9_min_7cf53 10 = .ok (.ireturn, 1) := by decide +kernel
theorem dJ9_min_f86c9_0 : decode cJ9_min_f86c9 0 = .ok (.lload_n 0, 1) := by decide +kernel
theorem dJ9_min_f86c9_1 : decode cJ9_min_f86c9 1 = .ok (.lload_n 2, 1) := by decide +kernel
theorem dJ9_min_f86c9_2 : decode cJ9_min_f86c9 2 = .ok (.lcmp, 1) := by decide +kernel
theorem dJ9_min_f86c9_3 : decode cJ9_min_f86c9 3 = .ok (.ifCond .gt 7, 3) := by decide +kernel
theorem dJ9_min_f86c9_6 : decode cJ9_min_f86c9 6 = .ok (.lload_n 0, 1) := by decide +kernel
theorem dJ9_min_f86c9_7 : decode cJ9_min_f86c9 7 = .ok (.goto 4, 3) := by decide +kernel
theorem dJ9_min_f86c9_10 : decode cJ9_min_f86c9 10 = .ok (.lload_n 2, 1) := by decide +kernel
theorem dJ9_min_f86c9_11 : decode cJ9_min_f86c9 11 = .ok (.lreturn, 1) := by decide +kernel
theorem dJ0_length_8abf5_0 : decode cJ0_length_8abf5 0 = .ok (.aload_n 0, 1) := by decide +kernel
theorem dJ0_length_8abf5_1 : decode cJ0_length_8abf5 1 = .ok (.getfield 9, 3) := by decide +kernel
theorem dJ0_length_8abf5_4 : decode cJ0_length_8abf5 4 = .ok (.arraylength, 1) := by decide +kernel
theorem dJ0_length_8abf5_5 : decode cJ0_length_8abf5 5 = .ok (.aload_n 0, 1) := by decide +kernel
theorem dJ0_length_8abf5_6 : decode cJ0_length_8abf5 6 = .ok (.invokevirtual 335, 3) := by decide +kernel
theorem dJ0_length_8abf5_9 : decode cJ0_length_8abf5 9 = .ok (.ishr, 1) := by decide +kernel
theorem dJ0_length_8abf5_10 : decode cJ0_length_8abf5 10 = .ok (.ireturn, 1) := by decide +kernel
theorem dJ0_charAt_5068e_0 : decode cJ0_charAt_5068e 0 = .ok (.aload_n 0, 1) := by decide +kernel
theorem dJ0_charAt_5068e_1 : decode cJ0_charAt_5068e 1 = .ok (.invokevirtual 492, 3) := by decide +kernel
theorem dJ0_charAt_5068e_4 : decode cJ0_charAt_5068e 4 = .ok (.ifCond .eq 12, 3) := by decide +kernel
theorem dJ0_charAt_5068e_7 : decode cJ0_charAt_5068e 7 = .ok (.aload_n 0, 1) := by decide +kernel
theorem dJ0_charAt_5068e_8 : decode cJ0_charAt_5068e 8 = .ok (.getfield 9, 3) := by decide +kernel
theorem dJ0_charAt_5068e_11 : decode cJ0_charAt_5068e 11 = .ok (.iload_n 1, 1) := by decide +kernel
theorem dJ0_charAt_5068e_12 : decode cJ0_charAt_5068e 12 = .ok (.invokestatic 495, 3) := by decide +kernel
theorem dJ0_charAt_5068e_15 : decode cJ0_charAt_5068e 15 = .ok (.ireturn, 1) := by decide +kernel
theorem dJ0_charAt_5068e_16 : decode cJ0_charAt_5068e 16 = .ok (.aload_n 0, 1) := by decide +kernel
theorem dJ0_charAt_5068e_17 : decode cJ0_charAt_5068e 17 = .ok (.getfield 9, 3) := by decide +kernel
theorem dJ0_charAt_5068e_20 : decode cJ0_charAt_5068e 20 = .ok (.iload_n 1, 1) := by decide +kernel
theorem dJ0_charAt_5068e_21 : decode cJ0_charAt_5068e 21 = .ok (.invokestatic 498, 3) := by decide +kernel
theorem dJ0_charAt_5068e_24 : decode cJ0_charAt_5068e 24 = .ok (.ireturn, 1) := by decide +kernel
theorem dJ0_coder_7d493_0 : decode cJ0_coder_7d493 0 = .ok (.getstatic 38, 3) := by decide +kernel
theorem dJ0_coder_7d493_3 : decode cJ0_coder_7d493 3 = .ok (.ifCond .eq 10, 3) := by decide +kernel
theorem dJ0_coder_7d493_6 : decode cJ0_coder_7d493 6 = .ok (.aload_n 0, 1) := by decide +kernel
theorem dJ0_coder_7d493_7 : decode cJ0_coder_7d493 7 = .ok (.getfield 15, 3) := by decide +kernel
theorem dJ0_coder_7d493_10 : decode cJ0_coder_7d493 10 = .ok (.goto 4, 3) := by decide +kernel
theorem dJ0_coder_7d493_13 : decode cJ0_coder_7d493 13 = .ok (.iconst 1, 1) := by decide +kernel
theorem dJ0_coder_7d493_14 : decode cJ0_coder_7d493 14 = .ok (.ireturn, 1) := by decide +kernel
theorem dJ0_isLatin1_aae02_0 : decode cJ0_isLatin1_aae02 0 = .ok (.getstatic 38, 3) := by decide +kernel
theorem dJ0_isLatin1_aae02_3 : decode cJ0_isLatin1_aae02 3 = .ok (.ifCond .eq 14, 3) := by decide +kernel
theorem dJ0_isLatin1_aae02_6 : decode cJ0_isLatin1_aae02 6 = .ok (.aload_n 0, 1) := by decide +kernel
theorem dJ0_isLatin1_aae02_7 : decode cJ0_isLatin1_aae02 7 = .ok (.getfield 15, 3) := by decide +kernel
theorem dJ0_isLatin1_aae02_10 : decode cJ0_isLatin1_aae02 10 = .ok (.ifCond .ne 7, 3) := by decide +kernel
theorem dJ0_isLatin1_aae02_13 : decode cJ0_isLatin1_aae02 13 = .ok (.iconst 1, 1) := by decide +kernel
theorem dJ0_isLatin1_aae02_14 : decode cJ0_isLatin1_aae02 14 = .ok (.goto 4, 3) := by decide +kernel
theorem dJ0_isLatin1_aae02_17 : decode cJ0_isLatin1_aae02 17 = .ok (.iconst 0, 1) := by decide +kernel
theorem dJ0_isLatin1_aae02_18 : decode cJ0_isLatin1_aae02 18 = .ok (.ireturn, 1) := by decide +kernel
theorem dJ0_checkIndex_df160_0 : decode cJ0_checkIndex_df160 0 = .ok (.iload_n 0, 1) := by decide +kernel
theorem dJ0_checkIndex_df160_1 : decode cJ0_checkIndex_df160 1 = .ok (.iload_n 1, 1) := by decide +kernel
theorem dJ0_checkIndex_df160_2 : decode cJ0_checkIndex_df160 2 = .ok (.getstatic 1053, 3) := by decide +kernel
theorem dJ0_checkIndex_df160_5 : decode cJ0_checkIndex_df160 5 = .ok (.invokestatic 1059, 3) := by decide +kernel
theorem dJ0_checkIndex_df160_8 : decode cJ0_checkIndex_df160 8 = .ok (.pop, 1) := by decide +kernel
theorem dJ0_checkIndex_df160_9 : decode cJ0_checkIndex_df160 9 = .ok (.return_, 1) := by decide +kernel
theorem dJ1_charAt_3b067_0 : decode cJ1_charAt_3b067 0 = .ok (.iload_n 1, 1) := by decide +kernel
theorem dJ1_charAt_3b067_1 : decode cJ1_charAt_3b067 1 = .ok (.aload_n 0, 1) := by decide +kernel
theorem dJ1_charAt_3b067_2 : decode cJ1_charAt_3b067 2 = .ok (.arraylength, 1) := by decide +kernel
theorem dJ1_charAt_3b067_3 : decode cJ1_charAt_3b067 3 = .ok (.invokestatic 9, 3) := by decide +kernel
theorem dJ1_charAt_3b067_6 : decode cJ1_charAt_3b067 6 = .ok (.aload_n 0, 1) := by decide +kernel
theorem dJ1_charAt_3b067_7 : decode cJ1_charAt_3b067 7 = .ok (.iload_n 1, 1) := by decide +kernel
theorem dJ1_charAt_3b067_8 : decode cJ1_charAt_3b067 8 = .ok (.baload, 1) := by decide +kernel
theorem dJ1_charAt_3b067_9 : decode cJ1_charAt_3b067 9 = .ok (.sipush 255, 3) := by decide +kernel
theorem dJ1_charAt_3b067_12 : decode cJ1_charAt_3b067 12 = .ok (.iand, 1) := by decide +kernel
theorem dJ1_charAt_3b067_13 : decode cJ1_charAt_3b067 13 = .ok (.i2c, 1) := by decide +kernel
theorem dJ1_charAt_3b067_14 : decode cJ1_charAt_3b067 14 = .ok (.ireturn, 1) := by decide +kernel
theorem dJ2_getChar_3b067_0 : decode cJ2_getChar_3b067 0 = .ok (.getstatic 44, 3) := by decide +kernel
theorem dJ2_getChar_3b067_3 : decode cJ2_getChar_3b067 3 = .ok (.ifCond .ne 25, 3) := by decide +kernel
theorem dJ2_getChar_3b067_6 : decode cJ2_getChar_3b067 6 = .ok (.iload_n 1, 1) := by decide +kernel
theorem dJ2_getChar_3b067_7 : decode cJ2_getChar_3b067 7 = .ok (.ifCond .lt 11, 3) := by decide +kernel
theorem dJ2_getChar_3b067_10 : decode cJ2_getChar_3b067 10 = .ok (.iload_n 1, 1) := by decide +kernel
theorem dJ2_getChar_3b067_11 : decode cJ2_getChar_3b067 11 = .ok (.aload_n 0, 1) := by decide +kernel
theorem dJ2_getChar_3b067_12 : decode cJ2_getChar_3b067 12 = .ok (.invokestatic 48, 3) := by decide +kernel
theorem dJ2_getChar_3b067_15 : decode cJ2_getChar_3b067 15 = .ok (.if_icmp .lt 13, 3) := by decide +kernel
theorem dJ2_getChar_3b067_18 : decode cJ2_getChar_3b067 18 = .ok (.new 52, 3) := by decide +kernel
theorem dJ2_getChar_3b067_21 : decode cJ2_getChar_3b067 21 = .ok (.dup, 1) := by decide +kernel
theorem dJ2_getChar_3b067_22 : decode cJ2_getChar_3b067 22 = .ok (.ldc 54, 2) := by decide +kernel
theorem dJ2_getChar_3b067_24 : decode cJ2_getChar_3b067 24 = .ok (.invokespecial 56, 3) := by decide +kernel
theorem dJ2_getChar_3b067_27 : decode cJ2_getChar_3b067 27 = .ok (.athrow, 1) := by decide +kernel
theorem dJ2_getChar_3b067_28 : decode cJ2_getChar_3b067 28 = .ok (.iload_n 1, 1) := by decide +kernel
theorem dJ2_getChar_3b067_29 : decode cJ2_getChar_3b067 29 = .ok (.iconst 1, 1) := by decide +kernel
theorem dJ2_getChar_3b067_30 : decode cJ2_getChar_3b067 30 = .ok (.ishl, 1) := by decide +kernel
theorem dJ2_getChar_3b067_31 : decode cJ2_getChar_3b067 31 = .ok (.istore_n 1, 1) := by decide +kernel
theorem dJ2_getChar_3b067_32 : decode cJ2_getChar_3b067 32 = .ok (.aload_n 0, 1) := by decide +kernel
theorem dJ2_getChar_3b067_33 : decode cJ2_getChar_3b067 33 = .ok (.iload_n 1, 1) := by decide +kernel
theorem dJ2_getChar_3b067_34 : decode cJ2_getChar_3b067 34 = .ok (.iinc 1 1, 3) := by decide +kernel
theorem dJ2_getChar_3b067_37 : decode cJ2_getChar_3b067 37 = .ok (.baload, 1) := by decide +kernel
theorem dJ2_getChar_3b067_38 : decode cJ2_getChar_3b067 38 = .ok (.sipush 255, 3) := by decide +kernel
theorem dJ2_getChar_3b067_41 : decode cJ2_getChar_3b067 41 = .ok (.iand, 1) := by decide +kernel
theorem dJ2_getChar_3b067_42 : decode cJ2_getChar_3b067 42 = .ok (.getstatic 59, 3) := by decide +kernel
theorem dJ2_getChar_3b067_45 : decode cJ2_getChar_3b067 45 = .ok (.ishl, 1) := by decide +kernel
theorem dJ2_getChar_3b067_46 : decode cJ2_getChar_3b067 46 = .ok (.aload_n 0, 1) := by decide +kernel
theorem dJ2_getChar_3b067_47 : decode cJ2_getChar_3b067 47 = .ok (.iload_n 1, 1) := by decide +kernel
theorem dJ2_getChar_3b067_48 : decode cJ2_getChar_3b067 48 = .ok (.baload, 1) := by decide +kernel
theorem dJ2_getChar_3b067_49 : decode cJ2_getChar_3b067 49 = .ok (.sipush 255, 3) := by decide +kernel
theorem dJ2_getChar_3b067_52 : decode cJ2_getChar_3b067 52 = .ok (.iand, 1) := by decide +kernel
theorem dJ2_getChar_3b067_53 : decode cJ2_getChar_3b067 53 = .ok (.getstatic 63, 3) := by decide +kernel
theorem dJ2_getChar_3b067_56 : decode cJ2_getChar_3b067 56 = .ok (.ishl, 1) := by decide +kernel
theorem dJ2_getChar_3b067_57 : decode cJ2_getChar_3b067 57 = .ok (.ior, 1) := by decide +kernel
theorem dJ2_getChar_3b067_58 : decode cJ2_getChar_3b067 58 = .ok (.i2c, 1) := by decide +kernel
theorem dJ2_getChar_3b067_59 : decode cJ2_getChar_3b067 59 = .ok (.ireturn, 1) := by decide +kernel
theorem dJ2_length_9d52b_0 : decode cJ2_length_9d52b 0 = .ok (.aload_n 0, 1) := by decide +kernel
theorem dJ2_length_9d52b_1 : decode cJ2_length_9d52b 1 = .ok (.arraylength, 1) := by decide +kernel
theorem dJ2_length_9d52b_2 : decode cJ2_length_9d52b 2 = .ok (.iconst 1, 1) := by decide +kernel
theorem dJ2_length_9d52b_3 : decode cJ2_length_9d52b 3 = .ok (.ishr, 1) := by decide +kernel
theorem dJ2_length_9d52b_4 : decode cJ2_length_9d52b 4 = .ok (.ireturn, 1) := by decide +kernel
theorem dJ2_charAt_3b067_0 : decode cJ2_charAt_3b067 0 = .ok (.iload_n 1, 1) := by decide +kernel
theorem dJ2_charAt_3b067_1 : decode cJ2_charAt_3b067 1 = .ok (.aload_n 0, 1) := by decide +kernel
theorem dJ2_charAt_3b067_2 : decode cJ2_charAt_3b067 2 = .ok (.invokestatic 67, 3) := by decide +kernel
theorem dJ2_charAt_3b067_5 : decode cJ2_charAt_3b067 5 = .ok (.aload_n 0, 1) := by decide +kernel
theorem dJ2_charAt_3b067_6 : decode cJ2_charAt_3b067 6 = .ok (.iload_n 1, 1) := by decide +kernel
theorem dJ2_charAt_3b067_7 : decode cJ2_charAt_3b067 7 = .ok (.invokestatic 71, 3) := by decide +kernel
theorem dJ2_charAt_3b067_10 : decode cJ2_charAt_3b067 10 = .ok (.ireturn, 1) := by decide +kernel
theorem dJ2_checkIndex_2214a_0 : decode cJ2_checkIndex_2214a 0 = .ok (.iload_n 0, 1) := by decide +kernel
theorem dJ2_checkIndex_2214a_1 : decode cJ2_checkIndex_2214a 1 = .ok (.aload_n 1, 1) := by decide +kernel
theorem dJ2_checkIndex_2214a_2 : decode cJ2_checkIndex_2214a 2 = .ok (.invokestatic 48, 3) := by decide +kernel
theorem dJ2_checkIndex_2214a_5 : decode cJ2_checkIndex_2214a 5 = .ok (.invokestatic 414, 3) := by decide +kernel
theorem dJ2_checkIndex_2214a_8 : decode cJ2_checkIndex_2214a 8 = .ok (.return_, 1) := by decide +kernel
theorem dJxa1e45_init_da8c8_0 : decode cJxa1e45_init_da8c8 0 = .ok (.aload_n 0, 1) := by decide +kernel
theorem dJxa1e45_init_da8c8_1 : decode cJxa1e45_init_da8c8 1 = .ok (.invokespecial 1, 3) := by decide +kernel
theorem dJxa1e45_init_da8c8_4 : decode cJxa1e45_init_da8c8 4 = .ok (.return_, 1) := by decide +kernel
theorem dJxc12de_init_da8c8_0 : decode cJxc12de_init_da8c8 0 = .ok (.aload_n 0, 1) := by decide +kernel
theorem dJxc12de_init_da8c8_1 : decode cJxc12de_init_da8c8 1 = .ok (.invokespecial 1, 3) := by decide +kernel
theorem dJxc12de_init_da8c8_4 : decode cJxc12de_init_da8c8 4 = .ok (.aload_n 0, 1) := by decide +kernel
theorem dJxc12de_init_da8c8_5 : decode cJxc12de_init_da8c8 5 = .ok (.iconst 0, 1) := by decide +kernel
theorem dJxc12de_init_da8c8_6 : decode cJxc12de_init_da8c8 6 = .ok (.putfield 7, 3) := by decide +kernel
theorem dJxc12de_init_da8c8_9 : decode cJxc12de_init_da8c8 9 = .ok (.return_, 1) := by decide +kernel
theorem dJx4a65c_init_da8c8_0 : decode cJx4a65c_init_da8c8 0 = .ok (.aload_n 0, 1) := by decide +kernel
theorem dJx4a65c_init_da8c8_1 : decode cJx4a65c_init_da8c8 1 = .ok (.invokespecial 1, 3) := by decide +kernel
theorem dJx4a65c_init_da8c8_4 : decode cJx4a65c_init_da8c8 4 = .ok (.aload_n 0, 1) := by decide +kernel
theorem dJx4a65c_init_da8c8_5 : decode cJx4a65c_init_da8c8 5 = .ok (.getstatic 39, 3) := by decide +kernel
theorem dJx4a65c_init_da8c8_8 : decode cJx4a65c_init_da8c8 8 = .ok (.putfield 9, 3) := by decide +kernel
theorem dJx4a65c_init_da8c8_11 : decode cJx4a65c_init_da8c8 11 = .ok (.return_, 1) := by decide +kernel
theorem dJx4a65c_grow_92f84_0 : decode cJx4a65c_grow_92f84 0 = .ok (.aload_n 0, 1) := by decide +kernel
theorem dJx4a65c_grow_92f84_1 : decode cJx4a65c_grow_92f84 1 = .ok (.getfield 9, 3) := by decide +kernel
theorem dJx4a65c_grow_92f84_4 : decode cJx4a65c_grow_92f84 4 = .ok (.arraylength, 1) := by decide +kernel
theorem dJx4a65c_grow_92f84_5 : decode cJx4a65c_grow_92f84 5 = .ok (.istore_n 2, 1) := by decide +kernel
theorem dJx4a65c_grow_92f84_6 : decode cJx4a65c_grow_92f84 6 = .ok (.iload_n 2, 1) := by decide +kernel
theorem dJx4a65c_grow_92f84_7 : decode cJx4a65c_grow_92f84 7 = .ok (.ifCond .gt 13, 3) := by decide +kernel
theorem dJx4a65c_grow_92f84_10 : decode cJx4a65c_grow_92f84 10 = .ok (.aload_n 0, 1) := by decide +kernel
theorem dJx4a65c_grow_92f84_11 : decode cJx4a65c_grow_92f84 11 = .ok (.getfield 9, 3) := by decide +kernel
theorem dJx4a65c_grow_92f84_14 : decode cJx4a65c_grow_92f84 14 = .ok (.getstatic 39, 3) := by decide +kernel
theorem dJx4a65c_grow_92f84_17 : decode cJx4a65c_grow_92f84 17 = .ok (.if_acmp .eq 28, 3) := by decide +kernel
theorem dJx4a65c_grow_92f84_20 : decode cJx4a65c_grow_92f84 20 = .ok (.iload_n 2, 1) := by decide +kernel
theorem dJx4a65c_grow_92f84_21 : decode cJx4a65c_grow_92f84 21 = .ok (.iload_n 1, 1) := by decide +kernel
theorem dJx4a65c_grow_92f84_22 : decode cJx4a65c_grow_92f84 22 = .ok (.iload_n 2, 1) := by decide +kernel
theorem dJx4a65c_grow_92f84_23 : decode cJx4a65c_grow_92f84 23 = .ok (.isub, 1) := by decide +kernel
theorem dJx4a65c_grow_92f84_24 : decode cJx4a65c_grow_92f84 24 = .ok (.iload_n 2, 1) := by decide +kernel
theorem dJx4a65c_grow_92f84_25 : decode cJx4a65c_grow_92f84 25 = .ok (.iconst 1, 1) := by decide +kernel
theorem dJx4a65c_grow_92f84_26 : decode cJx4a65c_grow_92f84 26 = .ok (.ishr, 1) := by decide +kernel
theorem dJx4a65c_grow_92f84_27 : decode cJx4a65c_grow_92f84 27 = .ok (.invokestatic 73, 3) := by decide +kernel
theorem dJx4a65c_grow_92f84_30 : decode cJx4a65c_grow_92f84 30 = .ok (.istore_n 3, 1) := by decide +kernel
theorem dJx4a65c_grow_92f84_31 : decode cJx4a65c_grow_92f84 31 = .ok (.aload_n 0, 1) := by decide +kernel
theorem dJx4a65c_grow_92f84_32 : decode cJx4a65c_grow_92f84 32 = .ok (.aload_n 0, 1) := by decide +kernel
theorem dJx4a65c_grow_92f84_33 : decode cJx4a65c_grow_92f84 33 = .ok (.getfield 9, 3) := by decide +kernel
theorem dJx4a65c_grow_92f84_36 : decode cJx4a65c_grow_92f84 36 = .ok (.iload_n 3, 1) := by decide +kernel
theorem dJx4a65c_grow_92f84_37 : decode cJx4a65c_grow_92f84 37 = .ok (.invokestatic 66, 3) := by decide +kernel
theorem dJx4a65c_grow_92f84_40 : decode cJx4a65c_grow_92f84 40 = .ok (.dup_x1, 1) := by decide +kernel
theorem dJx4a65c_grow_92f84_41 : decode cJx4a65c_grow_92f84 41 = .ok (.putfield 9, 3) := by decide +kernel
theorem dJx4a65c_grow_92f84_44 : decode cJx4a65c_grow_92f84 44 = .ok (.areturn, 1) := by decide +kernel
theorem dJx4a65c_grow_92f84_45 : decode cJx4a65c_grow_92f84 45 = .ok (.aload_n 0, 1) := by decide +kernel
theorem dJx4a65c_grow_92f84_46 : decode cJx4a65c_grow_92f84 46 = .ok (.bipush 10, 2) := by decide +kernel
theorem dJx4a65c_grow_92f84_48 : decode cJx4a65c_grow_92f84 48 = .ok (.iload_n 1, 1) := by decide +kernel
theorem dJx4a65c_grow_92f84_49 : decode cJx4a65c_grow_92f84 49 = .ok (.invokestatic 79, 3) := by decide +kernel
theorem dJx4a65c_grow_92f84_52 : decode cJx4a65c_grow_92f84 52 = .ok (.anewarray 7, 3) := by decide +kernel
theorem dJx4a65c_grow_92f84_55 : decode cJx4a65c_grow_92f84 55 = .ok (.dup_x1, 1) := by decide +kernel
theorem dJx4a65c_grow_92f84_56 : decode cJx4a65c_grow_92f84 56 = .ok (.putfield 9, 3) := by decide +kernel
theorem dJx4a65c_grow_92f84_59 : decode cJx4a65c_grow_92f84 59 = .ok (.areturn, 1) := by decide +kernel
theorem dJx4a65c_grow_d5877_0 : decode cJx4a65c_grow_d5877 0 = .ok (.aload_n 0, 1) := by decide +kernel
theorem dJx4a65c_grow_d5877_1 : decode cJx4a65c_grow_d5877 1 = .ok (.aload_n 0, 1) := by decide +kernel
theorem dJx4a65c_grow_d5877_2 : decode cJx4a65c_grow_d5877 2 = .ok (.getfield 48, 3) := by decide +kernel
theorem dJx4a65c_grow_d5877_5 : decode cJx4a65c_grow_d5877 5 = .ok (.iconst 1, 1) := by decide +kernel
theorem dJx4a65c_grow_d5877_6 : decode cJx4a65c_grow_d5877 6 = .ok (.iadd, 1) := by decide +kernel
theorem dJx4a65c_grow_d5877_7 : decode cJx4a65c_grow_d5877 7 = .ok (.invokevirtual 69, 3) := by decide +kernel
theorem dJx4a65c_grow_d5877_10 : decode cJx4a65c_grow_d5877 10 = .ok (.areturn, 1) := by decide +kernel
theorem dJx4a65c_size_8abf5_0 : decode cJx4a65c_size_8abf5 0 = .ok (.aload_n 0, 1) := by decide +kernel
theorem dJx4a65c_size_8abf5_1 : decode cJx4a65c_size_8abf5 1 = .ok (.getfield 48, 3) := by decide +kernel
theorem dJx4a65c_size_8abf5_4 : decode cJx4a65c_size_8abf5 4 = .ok (.ireturn, 1) := by decide +kernel
theorem dJx4a65c_elementData_915e3_0 : decode cJx4a65c_elementData_915e3 0 = .ok (.aload_n 0, 1) := by decide +kernel
theorem dJx4a65c_elementData_915e3_1 : decode cJx4a65c_elementData_915e3 1 = .ok (.getfield 9, 3) := by decide +kernel
theorem dJx4a65c_elementData_915e3_4 : decode cJx4a65c_elementData_915e3 4 = .ok (.iload_n 1, 1) := by decide +kernel
theorem dJx4a65c_elementData_915e3_5 : decode cJx4a65c_elementData_915e3 5 = .ok (.aaload, 1) := by decide +kernel
theorem dJx4a65c_elementData_915e3_6 : decode cJx4a65c_elementData_915e3 6 = .ok (.areturn, 1) := by decide +kernel
theorem dJx4a65c_get_915e3_0 : decode cJx4a65c_get_915e3 0 = .ok (.iload_n 1, 1) := by decide +kernel
theorem dJx4a65c_get_915e3_1 : decode cJx4a65c_get_915e3 1 = .ok (.aload_n 0, 1) := by decide +kernel
theorem dJx4a65c_get_915e3_2 : decode cJx4a65c_get_915e3 2 = .ok (.getfield 48, 3) := by decide +kernel
theorem dJx4a65c_get_915e3_5 : decode cJx4a65c_get_915e3 5 = .ok (.invokestatic 118, 3) := by decide +kernel
theorem dJx4a65c_get_915e3_8 : decode cJx4a65c_get_915e3 8 = .ok (.pop, 1) := by decide +kernel
theorem dJx4a65c_get_915e3_9 : decode cJx4a65c_get_915e3 9 = .ok (.aload_n 0, 1) := by decide +kernel
theorem dJx4a65c_get_915e3_10 : decode cJx4a65c_get_915e3 10 = .ok (.iload_n 1, 1) := by decide +kernel
theorem dJx4a65c_get_915e3_11 : decode cJx4a65c_get_915e3 11 = .ok (.invokevirtual 123, 3) := by decide +kernel
theorem dJx4a65c_get_915e3_14 : decode cJx4a65c_get_915e3 14 = .ok (.areturn, 1) := by decide +kernel
theorem dJx4a65c_add_72be8_0 : decode cJx4a65c_add_72be8 0 = .ok (.iload_n 3, 1) := by decide +kernel
theorem dJx4a65c_add_72be8_1 : decode cJx4a65c_add_72be8 1 = .ok (.aload_n 2, 1) := by decide +kernel
theorem dJx4a65c_add_72be8_2 : decode cJx4a65c_add_72be8 2 = .ok (.arraylength, 1) := by decide +kernel
theorem dJx4a65c_add_72be8_3 : decode cJx4a65c_add_72be8 3 = .ok (.if_icmp .ne 8, 3) := by decide +kernel
theorem dJx4a65c_add_72be8_6 : decode cJx4a65c_add_72be8 6 = .ok (.aload_n 0, 1) := by decide +kernel
theorem dJx4a65c_add_72be8_7 : decode cJx4a65c_add_72be8 7 = .ok (.invokevirtual 129, 3) := by decide +kernel
theorem dJx4a65c_add_72be8_10 : decode cJx4a65c_add_72be8 10 = .ok (.astore_n 2, 1) := by decide +kernel
theorem dJx4a65c_add_72be8_11 : decode cJx4a65c_add_72be8 11 = .ok (.aload_n 2, 1) := by decide +kernel
theorem dJx4a65c_add_72be8_12 : decode cJx4a65c_add_72be8 12 = .ok (.iload_n 3, 1) := by decide +kernel
theorem dJx4a65c_add_72be8_13 : decode cJx4a65c_add_72be8 13 = .ok (.aload_n 1, 1) := by decide +kernel
theorem dJx4a65c_add_72be8_14 : decode cJx4a65c_add_72be8 14 = .ok (.aastore, 1) := by decide +kernel
theorem dJx4a65c_add_72be8_15 : decode cJx4a65c_add_72be8 15 = .ok (.aload_n 0, 1) := by decide +kernel
theorem dJx4a65c_add_72be8_16 : decode cJx4a65c_add_72be8 16 = .ok (.iload_n 3, 1) := by decide +kernel
theorem dJx4a65c_add_72be8_17 : decode cJx4a65c_add_72be8 17 = .ok (.iconst 1, 1) := by decide +kernel
theorem dJx4a65c_add_72be8_18 : decode cJx4a65c_add_72be8 18 = .ok (.iadd, 1) := by decide +kernel
theorem dJx4a65c_add_72be8_19 : decode cJx4a65c_add_72be8 19 = .ok (.putfield 48, 3) := by decide +kernel
theorem dJx4a65c_add_72be8_22 : decode cJx4a65c_add_72be8 22 = .ok (.return_, 1) := by decide +kernel
theorem dJx4a65c_add_9ea2d_0 : decode cJx4a65c_add_9ea2d 0 = .ok (.aload_n 0, 1) := by decide +kernel
theorem dJx4a65c_add_9ea2d_1 : decode cJx4a65c_add_9ea2d 1 = .ok (.dup, 1) := by decide +kernel
theorem dJx4a65c_add_9ea2d_2 : decode cJx4a65c_add_9ea2d 2 = .ok (.getfield 63, 3) := by decide +kernel
theorem dJx4a65c_add_9ea2d_5 : decode cJx4a65c_add_9ea2d 5 = .ok (.iconst 1, 1) := by decide +kernel
theorem dJx4a65c_add_9ea2d_6 : decode cJx4a65c_add_9ea2d 6 = .ok (.iadd, 1) := by decide +kernel
theorem dJx4a65c_add_9ea2d_7 : decode cJx4a65c_add_9ea2d 7 = .ok (.putfield 63, 3) := by decide +kernel
theorem dJx4a65c_add_9ea2d_10 : decode cJx4a65c_add_9ea2d 10 = .ok (.aload_n 0, 1) := by decide +kernel
theorem dJx4a65c_add_9ea2d_11 : decode cJx4a65c_add_9ea2d 11 = .ok (.aload_n 1, 1) := by decide +kernel
theorem dJx4a65c_add_9ea2d_12 : decode cJx4a65c_add_9ea2d 12 = .ok (.aload_n 0, 1) := by decide +kernel
theorem dJx4a65c_add_9ea2d_13 : decode cJx4a65c_add_9ea2d 13 = .ok (.getfield 9, 3) := by decide +kernel
theorem dJx4a65c_add_9ea2d_16 : decode cJx4a65c_add_9ea2d 16 = .ok (.aload_n 0, 1) := by decide +kernel
theorem dJx4a65c_add_9ea2d_17 : decode cJx4a65c_add_9ea2d 17 = .ok (.getfield 48, 3) := by decide +kernel
theorem dJx4a65c_add_9ea2d_20 : decode cJx4a65c_add_9ea2d 20 = .ok (.invokevirtual 131, 3) := by decide +kernel
theorem dJx4a65c_add_9ea2d_23 : decode cJx4a65c_add_9ea2d 23 = .ok (.iconst 1, 1) := by decide +kernel
theorem dJx4a65c_add_9ea2d_24 : decode cJx4a65c_add_9ea2d 24 = .ok (.ireturn, 1) := by decide +kernel
theorem dJ7_copyOf_1904c_0 : decode cJ7_copyOf_1904c 0 = .ok (.aload_n 0, 1) := by decide +kernel
theorem dJ7_copyOf_1904c_1 : decode cJ7_copyOf_1904c 1 = .ok (.iload_n 1, 1) := by decide +kernel
theorem dJ7_copyOf_1904c_2 : decode cJ7_copyOf_1904c 2 = .ok (.aload_n 0, 1) := by decide +kernel
theorem dJ7_copyOf_1904c_3 : decode cJ7_copyOf_1904c 3 = .ok (.invokevirtual 86, 3) := by decide +kernel
theorem dJ7_copyOf_1904c_6 : decode cJ7_copyOf_1904c 6 = .ok (.invokestatic 300, 3) := by decide +kernel
theorem dJ7_copyOf_1904c_9 : decode cJ7_copyOf_1904c 9 = .ok (.areturn, 1) := by decide +kernel
theorem dJ7_copyOf_6403c_0 : decode cJ7_copyOf_6403c 0 = .ok (.aload_n 2, 1) := by decide +kernel
theorem dJ7_copyOf_6403c_1 : decode cJ7_copyOf_6403c 1 = .ok (.ldc 110, 2) := by decide +kernel
theorem dJ7_copyOf_6403c_3 : decode cJ7_copyOf_6403c 3 = .ok (.if_acmp .ne 10, 3) := by decide +kernel
theorem dJ7_copyOf_6403c_6 : decode cJ7_copyOf_6403c 6 = .ok (.iload_n 1, 1) := by decide +kernel
theorem dJ7_copyOf_6403c_7 : decode cJ7_copyOf_6403c 7 = .ok (.anewarray 2, 3) := by decide +kernel
theorem dJ7_copyOf_6403c_10 : decode cJ7_copyOf_6403c 10 = .ok (.goto 14, 3) := by decide +kernel
theorem dJ7_copyOf_6403c_13 : decode cJ7_copyOf_6403c 13 = .ok (.aload_n 2, 1) := by decide +kernel
theorem dJ7_copyOf_6403c_14 : decode cJ7_copyOf_6403c 14 = .ok (.invokevirtual 90, 3) := by decide +kernel
theorem dJ7_copyOf_6403c_17 : decode cJ7_copyOf_6403c 17 = .ok (.iload_n 1, 1) := by decide +kernel
theorem dJ7_copyOf_6403c_18 : decode cJ7_copyOf_6403c 18 = .ok (.invokestatic 95, 3) := by decide +kernel
theorem dJ7_copyOf_6403c_21 : decode cJ7_copyOf_6403c 21 = .ok (.checkcast 110, 3) := by decide +kernel
theorem dJ7_copyOf_6403c_24 : decode cJ7_copyOf_6403c 24 = .ok (.astore_n 3, 1) := by decide +kernel
theorem dJ7_copyOf_6403c_25 : decode cJ7_copyOf_6403c 25 = .ok (.aload_n 0, 1) := by decide +kernel
theorem dJ7_copyOf_6403c_26 : decode cJ7_copyOf_6403c 26 = .ok (.iconst 0, 1) := by decide +kernel
theorem dJ7_copyOf_6403c_27 : decode cJ7_copyOf_6403c 27 = .ok (.aload_n 3, 1) := by decide +kernel
theorem dJ7_copyOf_6403c_28 : decode cJ7_copyOf_6403c 28 = .ok (.iconst 0, 1) := by decide +kernel
theorem dJ7_copyOf_6403c_29 : decode cJ7_copyOf_6403c 29 = .ok (.aload_n 0, 1) := by decide +kernel
theorem dJ7_copyOf_6403c_30 : decode cJ7_copyOf_6403c 30 = .ok (.arraylength, 1) := by decide +kernel
theorem dJ7_copyOf_6403c_31 : decode cJ7_copyOf_6403c 31 = .ok (.iload_n 1, 1) := by decide +kernel
theorem dJ7_copyOf_6403c_32 : decode cJ7_copyOf_6403c 32 = .ok (.invokestatic 304, 3) := by decide +kernel
theorem dJ7_copyOf_6403c_35 : decode cJ7_copyOf_6403c 35 = .ok (.invokestatic 150, 3) := by decide +kernel
theorem dJ7_copyOf_6403c_38 : decode cJ7_copyOf_6403c 38 = .ok (.aload_n 3, 1) := by decide +kernel
theorem dJ7_copyOf_6403c_39 : decode cJ7_copyOf_6403c 39 = .ok (.areturn, 1) := by decide +kernel
theorem dJ7_checkLength_df160_0 : decode cJ7_checkLength_df160 0 = .ok (.iload_n 1, 1) := by decide +kernel
theorem dJ7_checkLength_df160_1 : decode cJ7_checkLength_df160 1 = .ok (.iload_n 0, 1) := by decide +kernel
theorem dJ7_checkLength_df160_2 : decode cJ7_checkLength_df160 2 = .ok (.if_icmp .ge 35, 3) := by decide +kernel
theorem dJ7_checkLength_df160_5 : decode cJ7_checkLength_df160 5 = .ok (.new 43, 3) := by decide +kernel
theorem dJ7_checkLength_df160_8 : decode cJ7_checkLength_df160 8 = .ok (.dup, 1) := by decide +kernel
theorem dJ7_checkLength_df160_9 : decode cJ7_checkLength_df160 9 = .ok (.new 45, 3) := by decide +kernel
theorem dJ7_checkLength_df160_12 : decode cJ7_checkLength_df160 12 = .ok (.dup, 1) := by decide +kernel
theorem dJ7_checkLength_df160_13 : decode cJ7_checkLength_df160 13 = .ok (.invokespecial 47, 3) := by decide +kernel
theorem dJ7_checkLength_df160_16 : decode cJ7_checkLength_df160 16 = .ok (.iload_n 0, 1) := by decide +kernel
theorem dJ7_checkLength_df160_17 : decode cJ7_checkLength_df160 17 = .ok (.invokevirtual 54, 3) := by decide +kernel
theorem dJ7_checkLength_df160_20 : decode cJ7_checkLength_df160 20 = .ok (.ldc_w 337, 3) := by decide +kernel
theorem dJ7_checkLength_df160_23 : decode cJ7_checkLength_df160 23 = .ok (.invokevirtual 50, 3) := by decide +kernel
theorem dJ7_checkLength_df160_26 : decode cJ7_checkLength_df160 26 = .ok (.iload_n 1, 1) := by decide +kernel
theorem dJ7_checkLength_df160_27 : decode cJ7_checkLength_df160 27 = .ok (.invokevirtual 54, 3) := by decide +kernel
theorem dJ7_checkLength_df160_30 : decode cJ7_checkLength_df160 30 = .ok (.invokevirtual 61, 3) := by decide +kernel
theorem dJ7_checkLength_df160_33 : decode cJ7_checkLength_df160 33 = .ok (.invokespecial 65, 3) := by decide +kernel
theorem dJ7_checkLength_df160_36 : decode cJ7_checkLength_df160 36 = .ok (.athrow, 1) := by decide +kernel
theorem dJ7_checkLength_df160_37 : decode cJ7_checkLength_df160 37 = .ok (.return_, 1) := by decide +kernel
theorem dJ7_copyOfRange_feecc_0 : decode cJ7_copyOfRange_feecc 0 = .ok (.iload_n 1, 1) := by decide +kernel
theorem dJ7_copyOfRange_feecc_1 : decode cJ7_copyOfRange_feecc 1 = .ok (.ifCond .ne 9, 3) := by decide +kernel
theorem dJ7_copyOfRange_feecc_4 : decode cJ7_copyOfRange_feecc 4 = .ok (.iload_n 2, 1) := by decide +kernel
theorem dJ7_copyOfRange_feecc_5 : decode cJ7_copyOfRange_feecc 5 = .ok (.aload_n 0, 1) := by decide +kernel
theorem dJ7_copyOfRange_feecc_6 : decode cJ7_copyOfRange_feecc 6 = .ok (.arraylength, 1) := by decide +kernel
theorem dJ7_copyOfRange_feecc_7 : decode cJ7_copyOfRange_feecc 7 = .ok (.if_icmp .eq 10, 3) := by decide +kernel
theorem dJ7_copyOfRange_feecc_10 : decode cJ7_copyOfRange_feecc 10 = .ok (.aload_n 0, 1) := by decide +kernel
theorem dJ7_copyOfRange_feecc_11 : decode cJ7_copyOfRange_feecc 11 = .ok (.iload_n 1, 1) := by decide +kernel
theorem dJ7_copyOfRange_feecc_12 : decode cJ7_copyOfRange_feecc 12 = .ok (.iload_n 2, 1) := by decide +kernel
theorem dJ7_copyOfRange_feecc_13 : decode cJ7_copyOfRange_feecc 13 = .ok (.invokestatic 351, 3) := by decide +kernel
theorem dJ7_copyOfRange_feecc_16 : decode cJ7_copyOfRange_feecc 16 = .ok (.areturn, 1) := by decide +kernel
theorem dJ7_copyOfRange_feecc_17 : decode cJ7_copyOfRange_feecc 17 = .ok (.aload_n 0, 1) := by decide +kernel
theorem dJ7_copyOfRange_feecc_18 : decode cJ7_copyOfRange_feecc 18 = .ok (.invokevirtual 316, 3) := by decide +kernel
theorem dJ7_copyOfRange_feecc_21 : decode cJ7_copyOfRange_feecc 21 = .ok (.checkcast 317, 3) := by decide +kernel
theorem dJ7_copyOfRange_feecc_24 : decode cJ7_copyOfRange_feecc 24 = .ok (.areturn, 1) := by decide +kernel
theorem dJ7_copyOfRangeInt_feecc_0 : decode cJ7_copyOfRangeInt_feecc 0 = .ok (.iload_n 1, 1) := by decide +kernel
theorem dJ7_copyOfRangeInt_feecc_1 : decode cJ7_copyOfRangeInt_feecc 1 = .ok (.iload_n 2, 1) := by decide +kernel
theorem dJ7_copyOfRangeInt_feecc_2 : decode cJ7_copyOfRangeInt_feecc 2 = .ok (.invokestatic 343, 3) := by decide +kernel
theorem dJ7_copyOfRangeInt_feecc_5 : decode cJ7_copyOfRangeInt_feecc 5 = .ok (.iload_n 2, 1) := by decide +kernel
theorem dJ7_copyOfRangeInt_feecc_6 : decode cJ7_copyOfRangeInt_feecc 6 = .ok (.iload_n 1, 1) := by decide +kernel
theorem dJ7_copyOfRangeInt_feecc_7 : decode cJ7_copyOfRangeInt_feecc 7 = .ok (.isub, 1) := by decide +kernel
theorem dJ7_copyOfRangeInt_feecc_8 : decode cJ7_copyOfRangeInt_feecc 8 = .ok (.istore_n 3, 1) := by decide +kernel
theorem dJ7_copyOfRangeInt_feecc_9 : decode cJ7_copyOfRangeInt_feecc 9 = .ok (.iload_n 3, 1) := by decide +kernel
theorem dJ7_copyOfRangeInt_feecc_10 : decode cJ7_copyOfRangeInt_feecc 10 = .ok (.newarray .int, 2) := by decide +kernel
theorem dJ7_copyOfRangeInt_feecc_12 : decode cJ7_copyOfRangeInt_feecc 12 = .ok (.astore 4, 2) := by decide +kernel
theorem dJ7_copyOfRangeInt_feecc_14 : decode cJ7_copyOfRangeInt_feecc 14 = .ok (.aload_n 0, 1) := by decide +kernel
theorem dJ7_copyOfRangeInt_feecc_15 : decode cJ7_copyOfRangeInt_feecc 15 = .ok (.iload_n 1, 1) := by decide +kernel
theorem dJ7_copyOfRangeInt_feecc_16 : decode cJ7_copyOfRangeInt_feecc 16 = .ok (.aload 4, 2) := by decide +kernel
theorem dJ7_copyOfRangeInt_feecc_18 : decode cJ7_copyOfRangeInt_feecc 18 = .ok (.iconst 0, 1) := by decide +kernel
theorem dJ7_copyOfRangeInt_feecc_19 : decode cJ7_copyOfRangeInt_feecc 19 = .ok (.aload_n 0, 1) := by decide +kernel
theorem dJ7_copyOfRangeInt_feecc_20 : decode cJ7_copyOfRangeInt_feecc 20 = .ok (.arraylength, 1) := by decide +kernel
theorem dJ7_copyOfRangeInt_feecc_21 : decode cJ7_copyOfRangeInt_feecc 21 = .ok (.iload_n 1, 1) := by decide +kernel
theorem dJ7_copyOfRangeInt_feecc_22 : decode cJ7_copyOfRangeInt_feecc 22 = .ok (.isub, 1) := by decide +kernel
theorem dJ7_copyOfRangeInt_feecc_23 : decode cJ7_copyOfRangeInt_feecc 23 = .ok (.iload_n 3, 1) := by decide +kernel
theorem dJ7_copyOfRangeInt_feecc_24 : decode cJ7_copyOfRangeInt_feecc 24 = .ok (.invokestatic 304, 3) := by decide +kernel
theorem dJ7_copyOfRangeInt_feecc_27 : decode cJ7_copyOfRangeInt_feecc 27 = .ok (.invokestatic 150, 3) := by decide +kernel
theorem dJ7_copyOfRangeInt_feecc_30 : decode cJ7_copyOfRangeInt_feecc 30 = .ok (.aload 4, 2) := by decide +kernel
theorem dJ7_copyOfRangeInt_feecc_32 : decode cJ7_copyOfRangeInt_feecc 32 = .ok (.areturn, 1) := by decide +kernel
theorem dJ15_checkIndex_7cf53_0 : decode cJ15_checkIndex_7cf53 0 = .ok (.iload_n 0, 1) := by decide +kernel
theorem dJ15_checkIndex_7cf53_1 : decode cJ15_checkIndex_7cf53 1 = .ok (.iload_n 1, 1) := by decide +kernel
theorem dJ15_checkIndex_7cf53_2 : decode cJ15_checkIndex_7cf53 2 = .ok (.aconst_null, 1) := by decide +kernel
theorem dJ15_checkIndex_7cf53_3 : decode cJ15_checkIndex_7cf53 3 = .ok (.invokestatic 105, 3) := by decide +kernel
theorem dJ15_checkIndex_7cf53_6 : decode cJ15_checkIndex_7cf53 6 = .ok (.ireturn, 1) := by decide +kernel
theorem dJ8_newLength_cabcc_0 : decode cJ8_newLength_cabcc 0 = .ok (.iload_n 0, 1) := by decide +kernel
theorem dJ8_newLength_cabcc_1 : decode cJ8_newLength_cabcc 1 = .ok (.iload_n 1, 1) := by decide +kernel
theorem dJ8_newLength_cabcc_2 : decode cJ8_newLength_cabcc 2 = .ok (.iload_n 2, 1) := by decide +kernel
theorem dJ8_newLength_cabcc_3 : decode cJ8_newLength_cabcc 3 = .ok (.invokestatic 194, 3) := by decide +kernel
theorem dJ8_newLength_cabcc_6 : decode cJ8_newLength_cabcc 6 = .ok (.iadd, 1) := by decide +kernel
theorem dJ8_newLength_cabcc_7 : decode cJ8_newLength_cabcc 7 = .ok (.istore_n 3, 1) := by decide +kernel
theorem dJ8_newLength_cabcc_8 : decode cJ8_newLength_cabcc 8 = .ok (.iconst 0, 1) := by decide +kernel
theorem dJ8_newLength_cabcc_9 : decode cJ8_newLength_cabcc 9 = .ok (.iload_n 3, 1) := by decide +kernel
theorem dJ8_newLength_cabcc_10 : decode cJ8_newLength_cabcc 10 = .ok (.if_icmp .ge 11, 3) := by decide +kernel
theorem dJ8_newLength_cabcc_13 : decode cJ8_newLength_cabcc 13 = .ok (.iload_n 3, 1) := by decide +kernel
theorem dJ8_newLength_cabcc_14 : decode cJ8_newLength_cabcc 14 = .ok (.ldc 200, 2) := by decide +kernel
theorem dJ8_newLength_cabcc_16 : decode cJ8_newLength_cabcc 16 = .ok (.if_icmp .gt 5, 3) := by decide +kernel
theorem dJ8_newLength_cabcc_19 : decode cJ8_newLength_cabcc 19 = .ok (.iload_n 3, 1) := by decide +kernel
theorem dJ8_newLength_cabcc_20 : decode cJ8_newLength_cabcc 20 = .ok (.ireturn, 1) := by decide +kernel
theorem dJ8_newLength_cabcc_21 : decode cJ8_newLength_cabcc 21 = .ok (.iload_n 0, 1) := by decide +kernel
theorem dJ8_newLength_cabcc_22 : decode cJ8_newLength_cabcc 22 = .ok (.iload_n 1, 1) := by decide +kernel
theorem dJ8_newLength_cabcc_23 : decode cJ8_newLength_cabcc 23 = .ok (.invokestatic 201, 3) := by decide +kernel
theorem dJ8_newLength_cabcc_26 : decode cJ8_newLength_cabcc 26 = .ok (.ireturn, 1) := by decide +kernel
theorem dJ8_hugeLength_7cf53_0 : decode cJ8_hugeLength_7cf53 0 = .ok (.iload_n 0, 1) := by decide +kernel
theorem dJ8_hugeLength_7cf53_1 : decode cJ8_hugeLength_7cf53 1 = .ok (.iload_n 1, 1) := by decide +kernel
theorem dJ8_hugeLength_7cf53_2 : decode cJ8_hugeLength_7cf53 2 = .ok (.iadd, 1) := by decide +kernel
theorem dJ8_hugeLength_7cf53_3 : decode cJ8_hugeLength_7cf53 3 = .ok (.istore_n 2, 1) := by decide +kernel
theorem dJ8_hugeLength_7cf53_4 : decode cJ8_hugeLength_7cf53 4 = .ok (.iload_n 2, 1) := by decide +kernel
theorem dJ8_hugeLength_7cf53_5 : decode cJ8_hugeLength_7cf53 5 = .ok (.ifCond .ge 44, 3) := by decide +kernel
theorem dJ8_hugeLength_7cf53_8 : decode cJ8_hugeLength_7cf53 8 = .ok (.new 204, 3) := by decide +kernel
theorem dJ8_hugeLength_7cf53_11 : decode cJ8_hugeLength_7cf53 11 = .ok (.dup, 1) := by decide +kernel
theorem dJ8_hugeLength_7cf53_12 : decode cJ8_hugeLength_7cf53 12 = .ok (.new 89, 3) := by decide +kernel
theorem dJ8_hugeLength_7cf53_15 : decode cJ8_hugeLength_7cf53 15 = .ok (.dup, 1) := by decide +kernel
theorem dJ8_hugeLength_7cf53_16 : decode cJ8_hugeLength_7cf53 16 = .ok (.invokespecial 91, 3) := by decide +kernel
theorem dJ8_hugeLength_7cf53_19 : decode cJ8_hugeLength_7cf53 19 = .ok (.ldc 206, 2) := by decide +kernel
theorem dJ8_hugeLength_7cf53_21 : decode cJ8_hugeLength_7cf53 21 = .ok (.invokevirtual 94, 3) := by decide +kernel
theorem dJ8_hugeLength_7cf53_24 : decode cJ8_hugeLength_7cf53 24 = .ok (.iload_n 0, 1) := by decide +kernel
theorem dJ8_hugeLength_7cf53_25 : decode cJ8_hugeLength_7cf53 25 = .ok (.invokevirtual 98, 3) := by decide +kernel
theorem dJ8_hugeLength_7cf53_28 : decode cJ8_hugeLength_7cf53 28 = .ok (.ldc 208, 2) := by decide +kernel
theorem dJ8_hugeLength_7cf53_30 : decode cJ8_hugeLength_7cf53 30 = .ok (.invokevirtual 94, 3) := by decide +kernel
theorem dJ8_hugeLength_7cf53_33 : decode cJ8_hugeLength_7cf53 33 = .ok (.iload_n 1, 1) := by decide +kernel
theorem dJ8_hugeLength_7cf53_34 : decode cJ8_hugeLength_7cf53 34 = .ok (.invokevirtual 98, 3) := by decide +kernel
theorem dJ8_hugeLength_7cf53_37 : decode cJ8_hugeLength_7cf53 37 = .ok (.ldc 210, 2) := by decide +kernel
theorem dJ8_hugeLength_7cf53_39 : decode cJ8_hugeLength_7cf53 39 = .ok (.invokevirtual 94, 3) := by decide +kernel
theorem dJ8_hugeLength_7cf53_42 : decode cJ8_hugeLength_7cf53 42 = .ok (.invokevirtual 101, 3) := by decide +kernel
theorem dJ8_hugeLength_7cf53_45 : decode cJ8_hugeLength_7cf53 45 = .ok (.invokespecial 212, 3) := by decide +kernel
theorem dJ8_hugeLength_7cf53_48 : decode cJ8_hugeLength_7cf53 48 = .ok (.athrow, 1) := by decide +kernel
theorem dJ8_hugeLength_7cf53_49 : decode cJ8_hugeLength_7cf53 49 = .ok (.iload_n 2, 1) := by decide +kernel
theorem dJ8_hugeLength_7cf53_50 : decode cJ8_hugeLength_7cf53 50 = .ok (.ldc 200, 2) := by decide +kernel
theorem dJ8_hugeLength_7cf53_52 : decode cJ8_hugeLength_7cf53 52 = .ok (.if_icmp .gt 6, 3) := by decide +kernel
theorem dJ8_hugeLength_7cf53_55 : decode cJ8_hugeLength_7cf53 55 = .ok (.ldc 200, 2) := by decide +kernel
theorem dJ8_hugeLength_7cf53_57 : decode cJ8_hugeLength_7cf53 57 = .ok (.ireturn, 1) := by decide +kernel
theorem dJ8_hugeLength_7cf53_58 : decode cJ8_hugeLength_7cf53 58 = .ok (.iload_n 2, 1) := by decide +kernel
theorem dJ8_hugeLength_7cf53_59 : decode cJ8_hugeLength_7cf53 59 = .ok (.ireturn, 1) := by decide +kernel
theorem dJ3_checkIndex_8e157_0 : decode cJ3_checkIndex_8e157 0 = .ok (.iload_n 0, 1) := by decide +kernel
theorem dJ3_checkIndex_8e157_1 : decode cJ3_checkIndex_8e157 1 = .ok (.ifCond .lt 8, 3) := by decide +kernel
theorem dJ3_checkIndex_8e157_4 : decode cJ3_checkIndex_8e157 4 = .ok (.iload_n 0, 1) := by decide +kernel
theorem dJ3_checkIndex_8e157_5 : decode cJ3_checkIndex_8e157 5 = .ok (.iload_n 1, 1) := by decide +kernel
theorem dJ3_checkIndex_8e157_6 : decode cJ3_checkIndex_8e157 6 = .ok (.if_icmp .lt 10, 3) := by decide +kernel
theorem dJ3_checkIndex_8e157_9 : decode cJ3_checkIndex_8e157 9 = .ok (.aload_n 2, 1) := by decide +kernel
theorem dJ3_checkIndex_8e157_10 : decode cJ3_checkIndex_8e157 10 = .ok (.iload_n 0, 1) := by decide +kernel
theorem dJ3_checkIndex_8e157_11 : decode cJ3_checkIndex_8e157 11 = .ok (.iload_n 1, 1) := by decide +kernel
theorem dJ3_checkIndex_8e157_12 : decode cJ3_checkIndex_8e157 12 = .ok (.invokestatic 95, 3) := by decide +kernel
theorem dJ3_checkIndex_8e157_15 : decode cJ3_checkIndex_8e157 15 = .ok (.athrow, 1) := by decide +kernel
theorem dJ3_checkIndex_8e157_16 : decode cJ3_checkIndex_8e157 16 = .ok (.iload_n 0, 1) := by decide +kernel
theorem dJ3_checkIndex_8e157_17 : decode cJ3_checkIndex_8e157 17 = .ok (.ireturn, 1) := by decide +kernel
theorem dL_law_0 : decode cL_law 0 = .ok (.new 7, 3) := by decide +kernel
theorem dL_law_3 : decode cL_law 3 = .ok (.dup, 1) := by decide +kernel
theorem dL_law_4 : decode cL_law 4 = .ok (.invokespecial 9, 3) := by decide +kernel
theorem dL_law_7 : decode cL_law 7 = .ok (.astore_n 1, 1) := by decide +kernel
theorem dL_law_8 : decode cL_law 8 = .ok (.new 10, 3) := by decide +kernel
theorem dL_law_11 : decode cL_law 11 = .ok (.dup, 1) := by decide +kernel
theorem dL_law_12 : decode cL_law 12 = .ok (.invokespecial 12, 3) := by decide +kernel
theorem dL_law_15 : decode cL_law 15 = .ok (.astore_n 2, 1) := by decide +kernel
theorem dL_law_16 : decode cL_law 16 = .ok (.iconst 0, 1) := by decide +kernel
theorem dL_law_17 : decode cL_law 17 = .ok (.istore_n 3, 1) := by decide +kernel
theorem dL_law_18 : decode cL_law 18 = .ok (.iload_n 3, 1) := by decide +kernel
theorem dL_law_19 : decode cL_law 19 = .ok (.aload_n 0, 1) := by decide +kernel
theorem dL_law_20 : decode cL_law 20 = .ok (.arraylength, 1) := by decide +kernel
theorem dL_law_21 : decode cL_law 21 = .ok (.bipush 6, 2) := by decide +kernel
theorem dL_law_23 : decode cL_law 23 = .ok (.isub, 1) := by decide +kernel
