theorem dX14_isWord_16 : decode cX14_isWord 16 = .ok (.lcmp, 1) := by decide +kernel
theorem dX14_isWord_17 : decode cX14_isWord 17 = .ok (.ifCond .ne 7, 3) := by decide +kernel
theorem dX14_isWord_20 : decode cX14_isWord 20 = .ok (.iconst 1, 1) := by decide +kernel
theorem dX14_isWord_21 : decode cX14_isWord 21 = .ok (.goto 4, 3) := by decide +kernel
theorem dX14_isWord_24 : decode cX14_isWord 24 = .ok (.iconst 0, 1) := by decide +kernel
theorem dX14_isWord_25 : decode cX14_isWord 25 = .ok (.ireturn, 1) := by decide +kernel
theorem dX14_is_0 : decode cX14_is 0 = .ok (.aload_n 0, 1) := by decide +kernel
theorem dX14_is_1 : decode cX14_is 1 = .ok (.getfield 156, 3) := by decide +kernel
theorem dX14_is_4 : decode cX14_is 4 = .ok (.iconst 4, 1) := by decide +kernel
theorem dX14_is_5 : decode cX14_is 5 = .ok (.if_icmp .ne 15, 3) := by decide +kernel
theorem dX14_is_8 : decode cX14_is 8 = .ok (.aload_n 0, 1) := by decide +kernel
theorem dX14_is_9 : decode cX14_is 9 = .ok (.getfield 159, 3) := by decide +kernel
theorem dX14_is_12 : decode cX14_is 12 = .ok (.iload_n 1, 1) := by decide +kernel
theorem dX14_is_13 : decode cX14_is 13 = .ok (.if_icmp .ne 7, 3) := by decide +kernel
theorem dX14_is_16 : decode cX14_is 16 = .ok (.iconst 1, 1) := by decide +kernel
theorem dX14_is_17 : decode cX14_is 17 = .ok (.goto 4, 3) := by decide +kernel
theorem dX14_is_20 : decode cX14_is 20 = .ok (.iconst 0, 1) := by decide +kernel
theorem dX14_is_21 : decode cX14_is 21 = .ok (.ireturn, 1) := by decide +kernel
theorem dX14_nameHere_0 : decode cX14_nameHere 0 = .ok (.aload_n 0, 1) := by decide +kernel
theorem dX14_nameHere_1 : decode cX14_nameHere 1 = .ok (.ldc 180, 2) := by decide +kernel
theorem dX14_nameHere_3 : decode cX14_nameHere 3 = .ok (.invokevirtual 182, 3) := by decide +kernel
theorem dX14_nameHere_6 : decode cX14_nameHere 6 = .ok (.ifCond .ne 48, 3) := by decide +kernel
theorem dX14_nameHere_9 : decode cX14_nameHere 9 = .ok (.aload_n 0, 1) := by decide +kernel
theorem dX14_nameHere_10 : decode cX14_nameHere 10 = .ok (.ldc 186, 2) := by decide +kernel
theorem dX14_nameHere_12 : decode cX14_nameHere 12 = .ok (.invokevirtual 182, 3) := by decide +kernel
theorem dX14_nameHere_15 : decode cX14_nameHere 15 = .ok (.ifCond .ne 39, 3) := by decide +kernel
theorem dX14_nameHere_18 : decode cX14_nameHere 18 = .ok (.aload_n 0, 1) := by decide +kernel
theorem dX14_nameHere_19 : decode cX14_nameHere 19 = .ok (.ldc 188, 2) := by decide +kernel
theorem dX14_nameHere_21 : decode cX14_nameHere 21 = .ok (.invokevirtual 182, 3) := by decide +kernel
theorem dX14_nameHere_24 : decode cX14_nameHere 24 = .ok (.ifCond .ne 30, 3) := by decide +kernel
theorem dX14_nameHere_27 : decode cX14_nameHere 27 = .ok (.aload_n 0, 1) := by decide +kernel
theorem dX14_nameHere_28 : decode cX14_nameHere 28 = .ok (.ldc 190, 2) := by decide +kernel
theorem dX14_nameHere_30 : decode cX14_nameHere 30 = .ok (.invokevirtual 182, 3) := by decide +kernel
theorem dX14_nameHere_33 : decode cX14_nameHere 33 = .ok (.ifCond .ne 21, 3) := by decide +kernel
theorem dX14_nameHere_36 : decode cX14_nameHere 36 = .ok (.aload_n 0, 1) := by decide +kernel
theorem dX14_nameHere_37 : decode cX14_nameHere 37 = .ok (.ldc 192, 2) := by decide +kernel
theorem dX14_nameHere_39 : decode cX14_nameHere 39 = .ok (.invokevirtual 182, 3) := by decide +kernel
theorem dX14_nameHere_42 : decode cX14_nameHere 42 = .ok (.ifCond .ne 12, 3) := by decide +kernel
theorem dX14_nameHere_45 : decode cX14_nameHere 45 = .ok (.aload_n 0, 1) := by decide +kernel
theorem dX14_nameHere_46 : decode cX14_nameHere 46 = .ok (.ldc 194, 2) := by decide +kernel
theorem dX14_nameHere_48 : decode cX14_nameHere 48 = .ok (.invokevirtual 182, 3) := by decide +kernel
theorem dX14_nameHere_51 : decode cX14_nameHere 51 = .ok (.ifCond .eq 7, 3) := by decide +kernel
theorem dX14_nameHere_54 : decode cX14_nameHere 54 = .ok (.iconst 1, 1) := by decide +kernel
theorem dX14_nameHere_55 : decode cX14_nameHere 55 = .ok (.goto 4, 3) := by decide +kernel
theorem dX14_nameHere_58 : decode cX14_nameHere 58 = .ok (.iconst 0, 1) := by decide +kernel
theorem dX14_nameHere_59 : decode cX14_nameHere 59 = .ok (.istore_n 1, 1) := by decide +kernel
theorem dX14_nameHere_60 : decode cX14_nameHere 60 = .ok (.aload_n 0, 1) := by decide +kernel
theorem dX14_nameHere_61 : decode cX14_nameHere 61 = .ok (.getfield 156, 3) := by decide +kernel
theorem dX14_nameHere_64 : decode cX14_nameHere 64 = .ok (.iconst 2, 1) := by decide +kernel
theorem dX14_nameHere_65 : decode cX14_nameHere 65 = .ok (.if_icmp .ne 7, 3) := by decide +kernel
theorem dX14_nameHere_68 : decode cX14_nameHere 68 = .ok (.iload_n 1, 1) := by decide +kernel
theorem dX14_nameHere_69 : decode cX14_nameHere 69 = .ok (.ifCond .eq 9, 3) := by decide +kernel
theorem dX14_nameHere_72 : decode cX14_nameHere 72 = .ok (.aload_n 0, 1) := by decide +kernel
theorem dX14_nameHere_73 : decode cX14_nameHere 73 = .ok (.iconst 1, 1) := by decide +kernel
theorem dX14_nameHere_74 : decode cX14_nameHere 74 = .ok (.invokevirtual 196, 3) := by decide +kernel
theorem dX14_nameHere_77 : decode cX14_nameHere 77 = .ok (.athrow, 1) := by decide +kernel
theorem dX14_nameHere_78 : decode cX14_nameHere 78 = .ok (.aload_n 0, 1) := by decide +kernel
theorem dX14_nameHere_79 : decode cX14_nameHere 79 = .ok (.ldc 199, 2) := by decide +kernel
theorem dX14_nameHere_81 : decode cX14_nameHere 81 = .ok (.invokevirtual 182, 3) := by decide +kernel
theorem dX14_nameHere_84 : decode cX14_nameHere 84 = .ok (.ifCond .eq 7, 3) := by decide +kernel
theorem dX14_nameHere_87 : decode cX14_nameHere 87 = .ok (.iconst 0, 1) := by decide +kernel
theorem dX14_nameHere_88 : decode cX14_nameHere 88 = .ok (.goto 56, 3) := by decide +kernel
theorem dX14_nameHere_91 : decode cX14_nameHere 91 = .ok (.aload_n 0, 1) := by decide +kernel
theorem dX14_nameHere_92 : decode cX14_nameHere 92 = .ok (.ldc 201, 2) := by decide +kernel
theorem dX14_nameHere_94 : decode cX14_nameHere 94 = .ok (.invokevirtual 182, 3) := by decide +kernel
theorem dX14_nameHere_97 : decode cX14_nameHere 97 = .ok (.ifCond .eq 7, 3) := by decide +kernel
theorem dX14_nameHere_100 : decode cX14_nameHere 100 = .ok (.iconst 1, 1) := by decide +kernel
theorem dX14_nameHere_101 : decode cX14_nameHere 101 = .ok (.goto 43, 3) := by decide +kernel
theorem dX14_nameHere_104 : decode cX14_nameHere 104 = .ok (.aload_n 0, 1) := by decide +kernel
theorem dX14_nameHere_105 : decode cX14_nameHere 105 = .ok (.ldc 203, 2) := by decide +kernel
theorem dX14_nameHere_107 : decode cX14_nameHere 107 = .ok (.invokevirtual 182, 3) := by decide +kernel
theorem dX14_nameHere_110 : decode cX14_nameHere 110 = .ok (.ifCond .eq 7, 3) := by decide +kernel
theorem dX14_nameHere_113 : decode cX14_nameHere 113 = .ok (.iconst 2, 1) := by decide +kernel
theorem dX14_nameHere_114 : decode cX14_nameHere 114 = .ok (.goto 30, 3) := by decide +kernel
theorem dX14_nameHere_117 : decode cX14_nameHere 117 = .ok (.aload_n 0, 1) := by decide +kernel
theorem dX14_nameHere_118 : decode cX14_nameHere 118 = .ok (.ldc 205, 2) := by decide +kernel
theorem dX14_nameHere_120 : decode cX14_nameHere 120 = .ok (.invokevirtual 182, 3) := by decide +kernel
theorem dX14_nameHere_123 : decode cX14_nameHere 123 = .ok (.ifCond .eq 7, 3) := by decide +kernel
theorem dX14_nameHere_126 : decode cX14_nameHere 126 = .ok (.iconst 3, 1) := by decide +kernel
theorem dX14_nameHere_127 : decode cX14_nameHere 127 = .ok (.goto 17, 3) := by decide +kernel
theorem dX14_nameHere_130 : decode cX14_nameHere 130 = .ok (.aload_n 0, 1) := by decide +kernel
theorem dX14_nameHere_131 : decode cX14_nameHere 131 = .ok (.ldc 206, 2) := by decide +kernel
theorem dX14_nameHere_133 : decode cX14_nameHere 133 = .ok (.invokevirtual 182, 3) := by decide +kernel
theorem dX14_nameHere_136 : decode cX14_nameHere 136 = .ok (.ifCond .eq 7, 3) := by decide +kernel
theorem dX14_nameHere_139 : decode cX14_nameHere 139 = .ok (.iconst 4, 1) := by decide +kernel
theorem dX14_nameHere_140 : decode cX14_nameHere 140 = .ok (.goto 4, 3) := by decide +kernel
theorem dX14_nameHere_143 : decode cX14_nameHere 143 = .ok (.iconst (-1), 1) := by decide +kernel
theorem dX14_nameHere_144 : decode cX14_nameHere 144 = .ok (.istore_n 2, 1) := by decide +kernel
theorem dX14_nameHere_145 : decode cX14_nameHere 145 = .ok (.iload_n 2, 1) := by decide +kernel
theorem dX14_nameHere_146 : decode cX14_nameHere 146 = .ok (.iconst (-1), 1) := by decide +kernel
theorem dX14_nameHere_147 : decode cX14_nameHere 147 = .ok (.if_icmp .ne 9, 3) := by decide +kernel
theorem dX14_nameHere_150 : decode cX14_nameHere 150 = .ok (.aload_n 0, 1) := by decide +kernel
theorem dX14_nameHere_151 : decode cX14_nameHere 151 = .ok (.iconst 2, 1) := by decide +kernel
theorem dX14_nameHere_152 : decode cX14_nameHere 152 = .ok (.invokevirtual 196, 3) := by decide +kernel
theorem dX14_nameHere_155 : decode cX14_nameHere 155 = .ok (.athrow, 1) := by decide +kernel
theorem dX14_nameHere_156 : decode cX14_nameHere 156 = .ok (.iload_n 2, 1) := by decide +kernel
theorem dX14_nameHere_157 : decode cX14_nameHere 157 = .ok (.ireturn, 1) := by decide +kernel
theorem dX14_reads_0 : decode cX14_reads 0 = .ok (.aload_n 1, 1) := by decide +kernel
theorem dX14_reads_1 : decode cX14_reads 1 = .ok (.iconst 0, 1) := by decide +kernel
theorem dX14_reads_2 : decode cX14_reads 2 = .ok (.putfield 208, 3) := by decide +kernel
theorem dX14_reads_5 : decode cX14_reads 5 = .ok (.aload_n 1, 1) := by decide +kernel
theorem dX14_reads_6 : decode cX14_reads 6 = .ok (.iconst 0, 1) := by decide +kernel
theorem dX14_reads_7 : decode cX14_reads 7 = .ok (.putfield 211, 3) := by decide +kernel
theorem dX14_reads_10 : decode cX14_reads 10 = .ok (.aload_n 0, 1) := by decide +kernel
theorem dX14_reads_11 : decode cX14_reads 11 = .ok (.iconst 0, 1) := by decide +kernel
theorem dX14_reads_12 : decode cX14_reads 12 = .ok (.putfield 214, 3) := by decide +kernel
theorem dX14_reads_15 : decode cX14_reads 15 = .ok (.aload_n 0, 1) := by decide +kernel
theorem dX14_reads_16 : decode cX14_reads 16 = .ok (.iconst 0, 1) := by decide +kernel
theorem dX14_reads_17 : decode cX14_reads 17 = .ok (.putfield 217, 3) := by decide +kernel
theorem dX14_reads_20 : decode cX14_reads 20 = .ok (.aload_n 0, 1) := by decide +kernel
theorem dX14_reads_21 : decode cX14_reads 21 = .ok (.invokevirtual 220, 3) := by decide +kernel
theorem dX14_reads_24 : decode cX14_reads 24 = .ok (.iconst 1, 1) := by decide +kernel
theorem dX14_reads_25 : decode cX14_reads 25 = .ok (.istore_n 2, 1) := by decide +kernel
theorem dX14_reads_26 : decode cX14_reads 26 = .ok (.iload_n 2, 1) := by decide +kernel
theorem dX14_reads_27 : decode cX14_reads 27 = .ok (.ifCond .eq 228, 3) := by decide +kernel
theorem dX14_reads_30 : decode cX14_reads 30 = .ok (.aload_n 0, 1) := by decide +kernel
theorem dX14_reads_31 : decode cX14_reads 31 = .ok (.ldc 180, 2) := by decide +kernel
theorem dX14_reads_33 : decode cX14_reads 33 = .ok (.invokevirtual 182, 3) := by decide +kernel
theorem dX14_reads_36 : decode cX14_reads 36 = .ok (.ifCond .eq 7, 3) := by decide +kernel
theorem dX14_reads_39 : decode cX14_reads 39 = .ok (.iconst 0, 1) := by decide +kernel
theorem dX14_reads_40 : decode cX14_reads 40 = .ok (.goto 30, 3) := by decide +kernel
theorem dX14_reads_43 : decode cX14_reads 43 = .ok (.aload_n 0, 1) := by decide +kernel
theorem dX14_reads_44 : decode cX14_reads 44 = .ok (.ldc 186, 2) := by decide +kernel
theorem dX14_reads_46 : decode cX14_reads 46 = .ok (.invokevirtual 182, 3) := by decide +kernel
theorem dX14_reads_49 : decode cX14_reads 49 = .ok (.ifCond .eq 7, 3) := by decide +kernel
theorem dX14_reads_52 : decode cX14_reads 52 = .ok (.iconst 1, 1) := by decide +kernel
theorem dX14_reads_53 : decode cX14_reads 53 = .ok (.goto 17, 3) := by decide +kernel
theorem dX14_reads_56 : decode cX14_reads 56 = .ok (.aload_n 0, 1) := by decide +kernel
theorem dX14_reads_57 : decode cX14_reads 57 = .ok (.ldc 188, 2) := by decide +kernel
theorem dX14_reads_59 : decode cX14_reads 59 = .ok (.invokevirtual 182, 3) := by decide +kernel
theorem dX14_reads_62 : decode cX14_reads 62 = .ok (.ifCond .eq 7, 3) := by decide +kernel
theorem dX14_reads_65 : decode cX14_reads 65 = .ok (.iconst 2, 1) := by decide +kernel
theorem dX14_reads_66 : decode cX14_reads 66 = .ok (.goto 4, 3) := by decide +kernel
theorem dX14_reads_69 : decode cX14_reads 69 = .ok (.iconst (-1), 1) := by decide +kernel
theorem dX14_reads_70 : decode cX14_reads 70 = .ok (.istore_n 3, 1) := by decide +kernel
theorem dX14_reads_71 : decode cX14_reads 71 = .ok (.iload_n 3, 1) := by decide +kernel
theorem dX14_reads_72 : decode cX14_reads 72 = .ok (.iconst (-1), 1) := by decide +kernel
theorem dX14_reads_73 : decode cX14_reads 73 = .ok (.if_icmp .ne 9, 3) := by decide +kernel
theorem dX14_reads_76 : decode cX14_reads 76 = .ok (.aload_n 0, 1) := by decide +kernel
theorem dX14_reads_77 : decode cX14_reads 77 = .ok (.iconst 1, 1) := by decide +kernel
theorem dX14_reads_78 : decode cX14_reads 78 = .ok (.invokevirtual 196, 3) := by decide +kernel
theorem dX14_reads_81 : decode cX14_reads 81 = .ok (.athrow, 1) := by decide +kernel
theorem dX14_reads_82 : decode cX14_reads 82 = .ok (.aload_n 1, 1) := by decide +kernel
theorem dX14_reads_83 : decode cX14_reads 83 = .ok (.getfield 208, 3) := by decide +kernel
theorem dX14_reads_86 : decode cX14_reads 86 = .ok (.bipush 12, 2) := by decide +kernel
theorem dX14_reads_88 : decode cX14_reads 88 = .ok (.if_icmp .ne 9, 3) := by decide +kernel
theorem dX14_reads_91 : decode cX14_reads 91 = .ok (.aload_n 0, 1) := by decide +kernel
theorem dX14_reads_92 : decode cX14_reads 92 = .ok (.iconst 4, 1) := by decide +kernel
theorem dX14_reads_93 : decode cX14_reads 93 = .ok (.invokevirtual 196, 3) := by decide +kernel
theorem dX14_reads_96 : decode cX14_reads 96 = .ok (.athrow, 1) := by decide +kernel
theorem dX14_reads_97 : decode cX14_reads 97 = .ok (.aload_n 1, 1) := by decide +kernel
theorem dX14_reads_98 : decode cX14_reads 98 = .ok (.getfield 208, 3) := by decide +kernel
theorem dX14_reads_101 : decode cX14_reads 101 = .ok (.istore 4, 2) := by decide +kernel
theorem dX14_reads_103 : decode cX14_reads 103 = .ok (.aload_n 1, 1) := by decide +kernel
theorem dX14_reads_104 : decode cX14_reads 104 = .ok (.getfield 223, 3) := by decide +kernel
theorem dX14_reads_107 : decode cX14_reads 107 = .ok (.iload 4, 2) := by decide +kernel
theorem dX14_reads_109 : decode cX14_reads 109 = .ok (.iload_n 3, 1) := by decide +kernel
theorem dX14_reads_110 : decode cX14_reads 110 = .ok (.iastore, 1) := by decide +kernel
theorem dX14_reads_111 : decode cX14_reads 111 = .ok (.aload_n 1, 1) := by decide +kernel
theorem dX14_reads_112 : decode cX14_reads 112 = .ok (.getfield 226, 3) := by decide +kernel
theorem dX14_reads_115 : decode cX14_reads 115 = .ok (.iload 4, 2) := by decide +kernel
theorem dX14_reads_117 : decode cX14_reads 117 = .ok (.iconst 0, 1) := by decide +kernel
theorem dX14_reads_118 : decode cX14_reads 118 = .ok (.iastore, 1) := by decide +kernel
theorem dX14_reads_119 : decode cX14_reads 119 = .ok (.aload_n 1, 1) := by decide +kernel
theorem dX14_reads_120 : decode cX14_reads 120 = .ok (.getfield 228, 3) := by decide +kernel
theorem dX14_reads_123 : decode cX14_reads 123 = .ok (.iload 4, 2) := by decide +kernel
theorem dX14_reads_125 : decode cX14_reads 125 = .ok (.iconst 0, 1) := by decide +kernel
theorem dX14_reads_126 : decode cX14_reads 126 = .ok (.iastore, 1) := by decide +kernel
theorem dX14_reads_127 : decode cX14_reads 127 = .ok (.aload_n 0, 1) := by decide +kernel
theorem dX14_reads_128 : decode cX14_reads 128 = .ok (.invokevirtual 220, 3) := by decide +kernel
theorem dX14_reads_131 : decode cX14_reads 131 = .ok (.iload_n 3, 1) := by decide +kernel
theorem dX14_reads_132 : decode cX14_reads 132 = .ok (.iconst 2, 1) := by decide +kernel
theorem dX14_reads_133 : decode cX14_reads 133 = .ok (.if_icmp .eq 51, 3) := by decide +kernel
theorem dX14_reads_136 : decode cX14_reads 136 = .ok (.aload_n 0, 1) := by decide +kernel
theorem dX14_reads_137 : decode cX14_reads 137 = .ok (.getfield 156, 3) := by decide +kernel
theorem dX14_reads_140 : decode cX14_reads 140 = .ok (.iconst 3, 1) := by decide +kernel
theorem dX14_reads_141 : decode cX14_reads 141 = .ok (.if_icmp .eq 9, 3) := by decide +kernel
theorem dX14_reads_144 : decode cX14_reads 144 = .ok (.aload_n 0, 1) := by decide +kernel
theorem dX14_reads_145 : decode cX14_reads 145 = .ok (.iconst 1, 1) := by decide +kernel
theorem dX14_reads_146 : decode cX14_reads 146 = .ok (.invokevirtual 196, 3) := by decide +kernel
theorem dX14_reads_149 : decode cX14_reads 149 = .ok (.athrow, 1) := by decide +kernel
theorem dX14_reads_150 : decode cX14_reads 150 = .ok (.aload_n 0, 1) := by decide +kernel
theorem dX14_reads_151 : decode cX14_reads 151 = .ok (.getfield 173, 3) := by decide +kernel
theorem dX14_reads_154 : decode cX14_reads 154 = .ok (.iconst 1, 1) := by decide +kernel
theorem dX14_reads_155 : decode cX14_reads 155 = .ok (.bipush 12, 2) := by decide +kernel
theorem dX14_reads_157 : decode cX14_reads 157 = .ok (.invokestatic 231, 3) := by decide +kernel
theorem dX14_reads_160 : decode cX14_reads 160 = .ok (.ifCond .ne 9, 3) := by decide +kernel
theorem dX14_reads_163 : decode cX14_reads 163 = .ok (.aload_n 0, 1) := by decide +kernel
theorem dX14_reads_164 : decode cX14_reads 164 = .ok (.iconst 3, 1) := by decide +kernel
theorem dX14_reads_165 : decode cX14_reads 165 = .ok (.invokevirtual 196, 3) := by decide +kernel
theorem dX14_reads_168 : decode cX14_reads 168 = .ok (.athrow, 1) := by decide +kernel
theorem dX14_reads_169 : decode cX14_reads 169 = .ok (.aload_n 1, 1) := by decide +kernel
theorem dX14_reads_170 : decode cX14_reads 170 = .ok (.getfield 226, 3) := by decide +kernel
theorem dX14_reads_173 : decode cX14_reads 173 = .ok (.iload 4, 2) := by decide +kernel
theorem dX14_reads_175 : decode cX14_reads 175 = .ok (.aload_n 0, 1) := by decide +kernel
theorem dX14_reads_176 : decode cX14_reads 176 = .ok (.getfield 173, 3) := by decide +kernel
theorem dX14_reads_179 : decode cX14_reads 179 = .ok (.iastore, 1) := by decide +kernel
theorem dX14_reads_180 : decode cX14_reads 180 = .ok (.aload_n 0, 1) := by decide +kernel
theorem dX14_reads_181 : decode cX14_reads 181 = .ok (.invokevirtual 220, 3) := by decide +kernel
theorem dX14_reads_184 : decode cX14_reads 184 = .ok (.aload_n 1, 1) := by decide +kernel
theorem dX14_reads_185 : decode cX14_reads 185 = .ok (.getfield 235, 3) := by decide +kernel
theorem dX14_reads_188 : decode cX14_reads 188 = .ok (.iload 4, 2) := by decide +kernel
theorem dX14_reads_190 : decode cX14_reads 190 = .ok (.aload_n 1, 1) := by decide +kernel
theorem dX14_reads_191 : decode cX14_reads 191 = .ok (.getfield 211, 3) := by decide +kernel
theorem dX14_reads_194 : decode cX14_reads 194 = .ok (.iastore, 1) := by decide +kernel
theorem dX14_reads_195 : decode cX14_reads 195 = .ok (.iload_n 3, 1) := by decide +kernel
theorem dX14_reads_196 : decode cX14_reads 196 = .ok (.ifCond .ne 8, 3) := by decide +kernel
theorem dX14_reads_199 : decode cX14_reads 199 = .ok (.aload_n 0, 1) := by decide +kernel
theorem dX14_reads_200 : decode cX14_reads 200 = .ok (.aload_n 1, 1) := by decide +kernel
theorem dX14_reads_201 : decode cX14_reads 201 = .ok (.invokevirtual 238, 3) := by decide +kernel
theorem dX14_reads_204 : decode cX14_reads 204 = .ok (.aload_n 1, 1) := by decide +kernel
theorem dX14_reads_205 : decode cX14_reads 205 = .ok (.getfield 242, 3) := by decide +kernel
theorem dX14_reads_208 : decode cX14_reads 208 = .ok (.iload 4, 2) := by decide +kernel
theorem dX14_reads_210 : decode cX14_reads 210 = .ok (.aload_n 1, 1) := by decide +kernel
theorem dX14_reads_211 : decode cX14_reads 211 = .ok (.getfield 211, 3) := by decide +kernel
theorem dX14_reads_214 : decode cX14_reads 214 = .ok (.iastore, 1) := by decide +kernel
theorem dX14_reads_215 : decode cX14_reads 215 = .ok (.iload_n 3, 1) := by decide +kernel
theorem dX14_reads_216 : decode cX14_reads 216 = .ok (.iconst 2, 1) := by decide +kernel
theorem dX14_reads_217 : decode cX14_reads 217 = .ok (.if_icmp .ne 10, 3) := by decide +kernel
theorem dX14_reads_220 : decode cX14_reads 220 = .ok (.aload_n 0, 1) := by decide +kernel
theorem dX14_reads_221 : decode cX14_reads 221 = .ok (.aload_n 1, 1) := by decide +kernel
theorem dX14_reads_222 : decode cX14_reads 222 = .ok (.iload 4, 2) := by decide +kernel
theorem dX14_reads_224 : decode cX14_reads 224 = .ok (.invokevirtual 245, 3) := by decide +kernel
theorem dX14_reads_227 : decode cX14_reads 227 = .ok (.aload_n 1, 1) := by decide +kernel
theorem dX14_reads_228 : decode cX14_reads 228 = .ok (.dup, 1) := by decide +kernel
theorem dX14_reads_229 : decode cX14_reads 229 = .ok (.getfield 208, 3) := by decide +kernel
theorem dX14_reads_232 : decode cX14_reads 232 = .ok (.iconst 1, 1) := by decide +kernel
theorem dX14_reads_233 : decode cX14_reads 233 = .ok (.iadd, 1) := by decide +kernel
theorem dX14_reads_234 : decode cX14_reads 234 = .ok (.putfield 208, 3) := by decide +kernel
theorem dX14_reads_237 : decode cX14_reads 237 = .ok (.aload_n 0, 1) := by decide +kernel
theorem dX14_reads_238 : decode cX14_reads 238 = .ok (.bipush 59, 2) := by decide +kernel
theorem dX14_reads_240 : decode cX14_reads 240 = .ok (.invokevirtual 249, 3) := by decide +kernel
theorem dX14_reads_243 : decode cX14_reads 243 = .ok (.istore_n 2, 1) := by decide +kernel
theorem dX14_reads_244 : decode cX14_reads 244 = .ok (.iload_n 2, 1) := by decide +kernel
theorem dX14_reads_245 : decode cX14_reads 245 = .ok (.ifCond .eq 7, 3) := by decide +kernel
theorem dX14_reads_248 : decode cX14_reads 248 = .ok (.aload_n 0, 1) := by decide +kernel
theorem dX14_reads_249 : decode cX14_reads 249 = .ok (.invokevirtual 220, 3) := by decide +kernel
theorem dX14_reads_252 : decode cX14_reads 252 = .ok (.goto (-226), 3) := by decide +kernel
theorem dX14_reads_255 : decode cX14_reads 255 = .ok (.aload_n 0, 1) := by decide +kernel
theorem dX14_reads_256 : decode cX14_reads 256 = .ok (.getfield 156, 3) := by decide +kernel
theorem dX14_reads_259 : decode cX14_reads 259 = .ok (.iconst 1, 1) := by decide +kernel
theorem dX14_reads_260 : decode cX14_reads 260 = .ok (.if_icmp .eq 9, 3) := by decide +kernel
theorem dX14_reads_263 : decode cX14_reads 263 = .ok (.aload_n 0, 1) := by decide +kernel
theorem dX14_reads_264 : decode cX14_reads 264 = .ok (.iconst 1, 1) := by decide +kernel
theorem dX14_reads_265 : decode cX14_reads 265 = .ok (.invokevirtual 196, 3) := by decide +kernel
theorem dX14_reads_268 : decode cX14_reads 268 = .ok (.athrow, 1) := by decide +kernel
theorem dX14_reads_269 : decode cX14_reads 269 = .ok (.return_, 1) := by decide +kernel
theorem dX14_readAny_0 : decode cX14_readAny 0 = .ok (.aload_n 0, 1) := by decide +kernel
theorem dX14_readAny_1 : decode cX14_readAny 1 = .ok (.aload_n 1, 1) := by decide +kernel
theorem dX14_readAny_2 : decode cX14_readAny 2 = .ok (.invokevirtual 252, 3) := by decide +kernel
theorem dX14_readAny_5 : decode cX14_readAny 5 = .ok (.aload_n 0, 1) := by decide +kernel
theorem dX14_readAny_6 : decode cX14_readAny 6 = .ok (.ldc 190, 2) := by decide +kernel
theorem dX14_readAny_8 : decode cX14_readAny 8 = .ok (.invokevirtual 182, 3) := by decide +kernel
theorem dX14_readAny_11 : decode cX14_readAny 11 = .ok (.ifCond .eq 22, 3) := by decide +kernel
theorem dX14_readAny_14 : decode cX14_readAny 14 = .ok (.aload_n 0, 1) := by decide +kernel
theorem dX14_readAny_15 : decode cX14_readAny 15 = .ok (.invokevirtual 220, 3) := by decide +kernel
theorem dX14_readAny_18 : decode cX14_readAny 18 = .ok (.aload_n 0, 1) := by decide +kernel
theorem dX14_readAny_19 : decode cX14_readAny 19 = .ok (.aload_n 1, 1) := by decide +kernel
theorem dX14_readAny_20 : decode cX14_readAny 20 = .ok (.invokevirtual 252, 3) := by decide +kernel
theorem dX14_readAny_23 : decode cX14_readAny 23 = .ok (.aload_n 1, 1) := by decide +kernel
theorem dX14_readAny_24 : decode cX14_readAny 24 = .ok (.iconst 5, 1) := by decide +kernel
theorem dX14_readAny_25 : decode cX14_readAny 25 = .ok (.iconst 0, 1) := by decide +kernel
theorem dX14_readAny_26 : decode cX14_readAny 26 = .ok (.iconst 0, 1) := by decide +kernel
theorem dX14_readAny_27 : decode cX14_readAny 27 = .ok (.invokevirtual 255, 3) := by decide +kernel
theorem dX14_readAny_30 : decode cX14_readAny 30 = .ok (.goto (-25), 3) := by decide +kernel
theorem dX14_readAny_33 : decode cX14_readAny 33 = .ok (.return_, 1) := by decide +kernel
theorem dX14_readAll_0 : decode cX14_readAll 0 = .ok (.aload_n 0, 1) := by decide +kernel
theorem dX14_readAll_1 : decode cX14_readAll 1 = .ok (.aload_n 1, 1) := by decide +kernel
theorem dX14_readAll_2 : decode cX14_readAll 2 = .ok (.invokevirtual 258, 3) := by decide +kernel
theorem dX14_readAll_5 : decode cX14_readAll 5 = .ok (.aload_n 0, 1) := by decide +kernel
theorem dX14_readAll_6 : decode cX14_readAll 6 = .ok (.ldc 192, 2) := by decide +kernel
theorem dX14_readAll_8 : decode cX14_readAll 8 = .ok (.invokevirtual 182, 3) := by decide +kernel
theorem dX14_readAll_11 : decode cX14_readAll 11 = .ok (.ifCond .eq 22, 3) := by decide +kernel
theorem dX14_readAll_14 : decode cX14_readAll 14 = .ok (.aload_n 0, 1) := by decide +kernel
theorem dX14_readAll_15 : decode cX14_readAll 15 = .ok (.invokevirtual 220, 3) := by decide +kernel
theorem dX14_readAll_18 : decode cX14_readAll 18 = .ok (.aload_n 0, 1) := by decide +kernel
theorem dX14_readAll_19 : decode cX14_readAll 19 = .ok (.aload_n 1, 1) := by decide +kernel
theorem dX14_readAll_20 : decode cX14_readAll 20 = .ok (.invokevirtual 258, 3) := by decide +kernel
theorem dX14_readAll_23 : decode cX14_readAll 23 = .ok (.aload_n 1, 1) := by decide +kernel
theorem dX14_readAll_24 : decode cX14_readAll 24 = .ok (.iconst 4, 1) := by decide +kernel
theorem dX14_readAll_25 : decode cX14_readAll 25 = .ok (.iconst 0, 1) := by decide +kernel
theorem dX14_readAll_26 : decode cX14_readAll 26 = .ok (.iconst 0, 1) := by decide +kernel
theorem dX14_readAll_27 : decode cX14_readAll 27 = .ok (.invokevirtual 255, 3) := by decide +kernel
theorem dX14_readAll_30 : decode cX14_readAll 30 = .ok (.goto (-25), 3) := by decide +kernel
theorem dX14_readAll_33 : decode cX14_readAll 33 = .ok (.return_, 1) := by decide +kernel
theorem dX14_readOne_0 : decode cX14_readOne 0 = .ok (.iconst 0, 1) := by decide +kernel
theorem dX14_readOne_1 : decode cX14_readOne 1 = .ok (.istore_n 2, 1) := by decide +kernel
theorem dX14_readOne_2 : decode cX14_readOne 2 = .ok (.aload_n 0, 1) := by decide +kernel
theorem dX14_readOne_3 : decode cX14_readOne 3 = .ok (.ldc 194, 2) := by decide +kernel
theorem dX14_readOne_5 : decode cX14_readOne 5 = .ok (.invokevirtual 182, 3) := by decide +kernel
theorem dX14_readOne_8 : decode cX14_readOne 8 = .ok (.ifCond .eq 25, 3) := by decide +kernel
theorem dX14_readOne_11 : decode cX14_readOne 11 = .ok (.iload_n 2, 1) := by decide +kernel
theorem dX14_readOne_12 : decode cX14_readOne 12 = .ok (.bipush 8, 2) := by decide +kernel
theorem dX14_readOne_14 : decode cX14_readOne 14 = .ok (.if_icmp .ne 9, 3) := by decide +kernel
theorem dX14_readOne_17 : decode cX14_readOne 17 = .ok (.aload_n 0, 1) := by decide +kernel
theorem dX14_readOne_18 : decode cX14_readOne 18 = .ok (.iconst 4, 1) := by decide +kernel
theorem dX14_readOne_19 : decode cX14_readOne 19 = .ok (.invokevirtual 196, 3) := by decide +kernel
theorem dX14_readOne_22 : decode cX14_readOne 22 = .ok (.athrow, 1) := by decide +kernel
theorem dX14_readOne_23 : decode cX14_readOne 23 = .ok (.iinc 2 1, 3) := by decide +kernel
theorem dX14_readOne_26 : decode cX14_readOne 26 = .ok (.aload_n 0, 1) := by decide +kernel
theorem dX14_readOne_27 : decode cX14_readOne 27 = .ok (.invokevirtual 220, 3) := by decide +kernel
theorem dX14_readOne_30 : decode cX14_readOne 30 = .ok (.goto (-28), 3) := by decide +kernel
theorem dX14_readOne_33 : decode cX14_readOne 33 = .ok (.aload_n 0, 1) := by decide +kernel
theorem dX14_readOne_34 : decode cX14_readOne 34 = .ok (.bipush 40, 2) := by decide +kernel
theorem dX14_readOne_36 : decode cX14_readOne 36 = .ok (.invokevirtual 249, 3) := by decide +kernel
theorem dX14_readOne_39 : decode cX14_readOne 39 = .ok (.ifCond .eq 69, 3) := by decide +kernel
theorem dX14_readOne_42 : decode cX14_readOne 42 = .ok (.aload_n 0, 1) := by decide +kernel
theorem dX14_readOne_43 : decode cX14_readOne 43 = .ok (.getfield 214, 3) := by decide +kernel
theorem dX14_readOne_46 : decode cX14_readOne 46 = .ok (.bipush 8, 2) := by decide +kernel
theorem dX14_readOne_48 : decode cX14_readOne 48 = .ok (.if_icmp .ne 9, 3) := by decide +kernel
theorem dX14_readOne_51 : decode cX14_readOne 51 = .ok (.aload_n 0, 1) := by decide +kernel
theorem dX14_readOne_52 : decode cX14_readOne 52 = .ok (.iconst 4, 1) := by decide +kernel
theorem dX14_readOne_53 : decode cX14_readOne 53 = .ok (.invokevirtual 196, 3) := by decide +kernel
theorem dX14_readOne_56 : decode cX14_readOne 56 = .ok (.athrow, 1) := by decide +kernel
theorem dX14_readOne_57 : decode cX14_readOne 57 = .ok (.aload_n 0, 1) := by decide +kernel
theorem dX14_readOne_58 : decode cX14_readOne 58 = .ok (.dup, 1) := by decide +kernel
theorem dX14_readOne_59 : decode cX14_readOne 59 = .ok (.getfield 214, 3) := by decide +kernel
theorem dX14_readOne_62 : decode cX14_readOne 62 = .ok (.iconst 1, 1) := by decide +kernel
theorem dX14_readOne_63 : decode cX14_readOne 63 = .ok (.iadd, 1) := by decide +kernel
theorem dX14_readOne_64 : decode cX14_readOne 64 = .ok (.putfield 214, 3) := by decide +kernel
theorem dX14_readOne_67 : decode cX14_readOne 67 = .ok (.aload_n 0, 1) := by decide +kernel
theorem dX14_readOne_68 : decode cX14_readOne 68 = .ok (.invokevirtual 220, 3) := by decide +kernel
theorem dX14_readOne_71 : decode cX14_readOne 71 = .ok (.aload_n 0, 1) := by decide +kernel
theorem dX14_readOne_72 : decode cX14_readOne 72 = .ok (.aload_n 1, 1) := by decide +kernel
theorem dX14_readOne_73 : decode cX14_readOne 73 = .ok (.invokevirtual 238, 3) := by decide +kernel
theorem dX14_readOne_76 : decode cX14_readOne 76 = .ok (.aload_n 0, 1) := by decide +kernel
theorem dX14_readOne_77 : decode cX14_readOne 77 = .ok (.bipush 41, 2) := by decide +kernel
theorem dX14_readOne_79 : decode cX14_readOne 79 = .ok (.invokevirtual 249, 3) := by decide +kernel
theorem dX14_readOne_82 : decode cX14_readOne 82 = .ok (.ifCond .ne 9, 3) := by decide +kernel
theorem dX14_readOne_85 : decode cX14_readOne 85 = .ok (.aload_n 0, 1) := by decide +kernel
theorem dX14_readOne_86 : decode cX14_readOne 86 = .ok (.iconst 1, 1) := by decide +kernel
theorem dX14_readOne_87 : decode cX14_readOne 87 = .ok (.invokevirtual 196, 3) := by decide +kernel
theorem dX14_readOne_90 : decode cX14_readOne 90 = .ok (.athrow, 1) := by decide +kernel
theorem dX14_readOne_91 : decode cX14_readOne 91 = .ok (.aload_n 0, 1) := by decide +kernel
theorem dX14_readOne_92 : decode cX14_readOne 92 = .ok (.invokevirtual 220, 3) := by decide +kernel
theorem dX14_readOne_95 : decode cX14_readOne 95 = .ok (.aload_n 0, 1) := by decide +kernel
theorem dX14_readOne_96 : decode cX14_readOne 96 = .ok (.dup, 1) := by decide +kernel
theorem dX14_readOne_97 : decode cX14_readOne 97 = .ok (.getfield 214, 3) := by decide +kernel
theorem dX14_readOne_100 : decode cX14_readOne 100 = .ok (.iconst 1, 1) := by decide +kernel
theorem dX14_readOne_101 : decode cX14_readOne 101 = .ok (.isub, 1) := by decide +kernel
theorem dX14_readOne_102 : decode cX14_readOne 102 = .ok (.putfield 214, 3) := by decide +kernel
theorem dX14_readOne_105 : decode cX14_readOne 105 = .ok (.goto 124, 3) := by decide +kernel
theorem dX14_readOne_108 : decode cX14_readOne 108 = .ok (.aload_n 0, 1) := by decide +kernel
theorem dX14_readOne_109 : decode cX14_readOne 109 = .ok (.invokevirtual 261, 3) := by decide +kernel
theorem dX14_readOne_112 : decode cX14_readOne 112 = .ok (.istore_n 3, 1) := by decide +kernel
theorem dX14_readOne_113 : decode cX14_readOne 113 = .ok (.aload_n 0, 1) := by decide +kernel
theorem dX14_readOne_114 : decode cX14_readOne 114 = .ok (.getfield 217, 3) := by decide +kernel
theorem dX14_readOne_117 : decode cX14_readOne 117 = .ok (.bipush 20, 2) := by decide +kernel
theorem dX14_readOne_119 : decode cX14_readOne 119 = .ok (.if_icmp .ne 9, 3) := by decide +kernel
theorem dX14_readOne_122 : decode cX14_readOne 122 = .ok (.aload_n 0, 1) := by decide +kernel
theorem dX14_readOne_123 : decode cX14_readOne 123 = .ok (.iconst 4, 1) := by decide +kernel
theorem dX14_readOne_124 : decode cX14_readOne 124 = .ok (.invokevirtual 196, 3) := by decide +kernel
theorem dX14_readOne_127 : decode cX14_readOne 127 = .ok (.athrow, 1) := by decide +kernel
theorem dX14_readOne_128 : decode cX14_readOne 128 = .ok (.aload_n 0, 1) := by decide +kernel
theorem dX14_readOne_129 : decode cX14_readOne 129 = .ok (.dup, 1) := by decide +kernel
theorem dX14_readOne_130 : decode cX14_readOne 130 = .ok (.getfield 217, 3) := by decide +kernel
theorem dX14_readOne_133 : decode cX14_readOne 133 = .ok (.iconst 1, 1) := by decide +kernel
theorem dX14_readOne_134 : decode cX14_readOne 134 = .ok (.iadd, 1) := by decide +kernel
theorem dX14_readOne_135 : decode cX14_readOne 135 = .ok (.putfield 217, 3) := by decide +kernel
theorem dX14_readOne_138 : decode cX14_readOne 138 = .ok (.aload_n 0, 1) := by decide +kernel
theorem dX14_readOne_139 : decode cX14_readOne 139 = .ok (.invokevirtual 220, 3) := by decide +kernel
theorem dX14_readOne_142 : decode cX14_readOne 142 = .ok (.aload_n 0, 1) := by decide +kernel
theorem dX14_readOne_143 : decode cX14_readOne 143 = .ok (.bipush 60, 2) := by decide +kernel
theorem dX14_readOne_145 : decode cX14_readOne 145 = .ok (.invokevirtual 249, 3) := by decide +kernel
theorem dX14_readOne_148 : decode cX14_readOne 148 = .ok (.ifCond .eq 7, 3) := by decide +kernel
theorem dX14_readOne_151 : decode cX14_readOne 151 = .ok (.iconst 0, 1) := by decide +kernel
theorem dX14_readOne_152 : decode cX14_readOne 152 = .ok (.goto 30, 3) := by decide +kernel
theorem dX14_readOne_155 : decode cX14_readOne 155 = .ok (.aload_n 0, 1) := by decide +kernel
theorem dX14_readOne_156 : decode cX14_readOne 156 = .ok (.bipush 62, 2) := by decide +kernel
theorem dX14_readOne_158 : decode cX14_readOne 158 = .ok (.invokevirtual 249, 3) := by decide +kernel
theorem dX14_readOne_161 : decode cX14_readOne 161 = .ok (.ifCond .eq 7, 3) := by decide +kernel
theorem dX14_readOne_164 : decode cX14_readOne 164 = .ok (.iconst 1, 1) := by decide +kernel
theorem dX14_readOne_165 : decode cX14_readOne 165 = .ok (.goto 17, 3) := by decide +kernel
theorem dX14_readOne_168 : decode cX14_readOne 168 = .ok (.aload_n 0, 1) := by decide +kernel
theorem dX14_readOne_169 : decode cX14_readOne 169 = .ok (.bipush 61, 2) := by decide +kernel
theorem dX14_readOne_171 : decode cX14_readOne 171 = .ok (.invokevirtual 249, 3) := by decide +kernel
theorem dX14_readOne_174 : decode cX14_readOne 174 = .ok (.ifCond .eq 7, 3) := by decide +kernel
theorem dX14_readOne_177 : decode cX14_readOne 177 = .ok (.iconst 2, 1) := by decide +kernel
theorem dX14_readOne_178 : decode cX14_readOne 178 = .ok (.goto 4, 3) := by decide +kernel
theorem dX14_readOne_181 : decode cX14_readOne 181 = .ok (.iconst (-1), 1) := by decide +kernel
theorem dX14_readOne_182 : decode cX14_readOne 182 = .ok (.istore 4, 2) := by decide +kernel
theorem dX14_readOne_184 : decode cX14_readOne 184 = .ok (.iload 4, 2) := by decide +kernel
theorem dX14_readOne_186 : decode cX14_readOne 186 = .ok (.iconst (-1), 1) := by decide +kernel
theorem dX14_readOne_187 : decode cX14_readOne 187 = .ok (.if_icmp .ne 9, 3) := by decide +kernel
theorem dX14_readOne_190 : decode cX14_readOne 190 = .ok (.aload_n 0, 1) := by decide +kernel
theorem dX14_readOne_191 : decode cX14_readOne 191 = .ok (.iconst 1, 1) := by decide +kernel
theorem dX14_readOne_192 : decode cX14_readOne 192 = .ok (.invokevirtual 196, 3) := by decide +kernel
theorem dX14_readOne_195 : decode cX14_readOne 195 = .ok (.athrow, 1) := by decide +kernel
theorem dX14_readOne_196 : decode cX14_readOne 196 = .ok (.aload_n 0, 1) := by decide +kernel
theorem dX14_readOne_197 : decode cX14_readOne 197 = .ok (.invokevirtual 220, 3) := by decide +kernel
theorem dX14_readOne_200 : decode cX14_readOne 200 = .ok (.aload_n 0, 1) := by decide +kernel
theorem dX14_readOne_201 : decode cX14_readOne 201 = .ok (.getfield 156, 3) := by decide +kernel
theorem dX14_readOne_204 : decode cX14_readOne 204 = .ok (.iconst 3, 1) := by decide +kernel
theorem dX14_readOne_205 : decode cX14_readOne 205 = .ok (.if_icmp .eq 9, 3) := by decide +kernel
theorem dX14_readOne_208 : decode cX14_readOne 208 = .ok (.aload_n 0, 1) := by decide +kernel
theorem dX14_readOne_209 : decode cX14_readOne 209 = .ok (.iconst 1, 1) := by decide +kernel
theorem dX14_readOne_210 : decode cX14_readOne 210 = .ok (.invokevirtual 196, 3) := by decide +kernel
theorem dX14_readOne_213 : decode cX14_readOne 213 = .ok (.athrow, 1) := by decide +kernel
theorem dX14_readOne_214 : decode cX14_readOne 214 = .ok (.aload_n 1, 1) := by decide +kernel
theorem dX14_readOne_215 : decode cX14_readOne 215 = .ok (.iload 4, 2) := by decide +kernel
theorem dX14_readOne_217 : decode cX14_readOne 217 = .ok (.iload_n 3, 1) := by decide +kernel
theorem dX14_readOne_218 : decode cX14_readOne 218 = .ok (.aload_n 0, 1) := by decide +kernel
theorem dX14_readOne_219 : decode cX14_readOne 219 = .ok (.getfield 173, 3) := by decide +kernel
theorem dX14_readOne_222 : decode cX14_readOne 222 = .ok (.invokevirtual 255, 3) := by decide +kernel
theorem dX14_readOne_225 : decode cX14_readOne 225 = .ok (.aload_n 0, 1) := by decide +kernel
theorem dX14_readOne_226 : decode cX14_readOne 226 = .ok (.invokevirtual 220, 3) := by decide +kernel
theorem dX14_readOne_229 : decode cX14_readOne 229 = .ok (.iload_n 2, 1) := by decide +kernel
theorem dX14_readOne_230 : decode cX14_readOne 230 = .ok (.iconst 2, 1) := by decide +kernel
theorem dX14_readOne_231 : decode cX14_readOne 231 = .ok (.irem, 1) := by decide +kernel
theorem dX14_readOne_232 : decode cX14_readOne 232 = .ok (.iconst 1, 1) := by decide +kernel
theorem dX14_readOne_233 : decode cX14_readOne 233 = .ok (.if_icmp .ne 10, 3) := by decide +kernel
theorem dX14_readOne_236 : decode cX14_readOne 236 = .ok (.aload_n 1, 1) := by decide +kernel
theorem dX14_readOne_237 : decode cX14_readOne 237 = .ok (.iconst 3, 1) := by decide +kernel
theorem dX14_readOne_238 : decode cX14_readOne 238 = .ok (.iconst 0, 1) := by decide +kernel
theorem dX14_readOne_239 : decode cX14_readOne 239 = .ok (.iconst 0, 1) := by decide +kernel
theorem dX14_readOne_240 : decode cX14_readOne 240 = .ok (.invokevirtual 255, 3) := by decide +kernel
theorem dX14_readOne_243 : decode cX14_readOne 243 = .ok (.return_, 1) := by decide +kernel
theorem dX14_readSum_0 : decode cX14_readSum 0 = .ok (.iconst 1, 1) := by decide +kernel
theorem dX14_readSum_1 : decode cX14_readSum 1 = .ok (.istore_n 3, 1) := by decide +kernel
theorem dX14_readSum_2 : decode cX14_readSum 2 = .ok (.iload_n 3, 1) := by decide +kernel
theorem dX14_readSum_3 : decode cX14_readSum 3 = .ok (.ifCond .eq 147, 3) := by decide +kernel
theorem dX14_readSum_6 : decode cX14_readSum 6 = .ok (.aload_n 0, 1) := by decide +kernel
theorem dX14_readSum_7 : decode cX14_readSum 7 = .ok (.getfield 156, 3) := by decide +kernel
theorem dX14_readSum_10 : decode cX14_readSum 10 = .ok (.iconst 3, 1) := by decide +kernel
theorem dX14_readSum_11 : decode cX14_readSum 11 = .ok (.if_icmp .ne 7, 3) := by decide +kernel
theorem dX14_readSum_14 : decode cX14_readSum 14 = .ok (.iconst (-1), 1) := by decide +kernel
theorem dX14_readSum_15 : decode cX14_readSum 15 = .ok (.goto 7, 3) := by decide +kernel
theorem dX14_readSum_18 : decode cX14_readSum 18 = .ok (.aload_n 0, 1) := by decide +kernel
theorem dX14_readSum_19 : decode cX14_readSum 19 = .ok (.invokevirtual 261, 3) := by decide +kernel
theorem dX14_readSum_22 : decode cX14_readSum 22 = .ok (.istore 4, 2) := by decide +kernel
theorem dX14_readSum_24 : decode cX14_readSum 24 = .ok (.aload_n 1, 1) := by decide +kernel
theorem dX14_readSum_25 : decode cX14_readSum 25 = .ok (.getfield 228, 3) := by decide +kernel
theorem dX14_readSum_28 : decode cX14_readSum 28 = .ok (.iload_n 2, 1) := by decide +kernel
theorem dX14_readSum_29 : decode cX14_readSum 29 = .ok (.iaload, 1) := by decide +kernel
theorem dX14_readSum_30 : decode cX14_readSum 30 = .ok (.iconst 4, 1) := by decide +kernel
theorem dX14_readSum_31 : decode cX14_readSum 31 = .ok (.if_icmp .ne 9, 3) := by decide +kernel
theorem dX14_readSum_34 : decode cX14_readSum 34 = .ok (.aload_n 0, 1) := by decide +kernel
theorem dX14_readSum_35 : decode cX14_readSum 35 = .ok (.iconst 4, 1) := by decide +kernel
theorem dX14_readSum_36 : decode cX14_readSum 36 = .ok (.invokevirtual 196, 3) := by decide +kernel
theorem dX14_readSum_39 : decode cX14_readSum 39 = .ok (.athrow, 1) := by decide +kernel
theorem dX14_readSum_40 : decode cX14_readSum 40 = .ok (.iconst 4, 1) := by decide +kernel
theorem dX14_readSum_41 : decode cX14_readSum 41 = .ok (.iload_n 2, 1) := by decide +kernel
theorem dX14_readSum_42 : decode cX14_readSum 42 = .ok (.imul, 1) := by decide +kernel
theorem dX14_readSum_43 : decode cX14_readSum 43 = .ok (.aload_n 1, 1) := by decide +kernel
theorem dX14_readSum_44 : decode cX14_readSum 44 = .ok (.getfield 228, 3) := by decide +kernel
theorem dX14_readSum_47 : decode cX14_readSum 47 = .ok (.iload_n 2, 1) := by decide +kernel
theorem dX14_readSum_48 : decode cX14_readSum 48 = .ok (.iaload, 1) := by decide +kernel
theorem dX14_readSum_49 : decode cX14_readSum 49 = .ok (.iadd, 1) := by decide +kernel
theorem dX14_readSum_50 : decode cX14_readSum 50 = .ok (.istore 5, 2) := by decide +kernel
theorem dX14_readSum_52 : decode cX14_readSum 52 = .ok (.aload_n 1, 1) := by decide +kernel
theorem dX14_readSum_53 : decode cX14_readSum 53 = .ok (.getfield 264, 3) := by decide +kernel
theorem dX14_readSum_56 : decode cX14_readSum 56 = .ok (.iload 5, 2) := by decide +kernel
theorem dX14_readSum_58 : decode cX14_readSum 58 = .ok (.aload_n 0, 1) := by decide +kernel
theorem dX14_readSum_59 : decode cX14_readSum 59 = .ok (.getfield 156, 3) := by decide +kernel
theorem dX14_readSum_62 : decode cX14_readSum 62 = .ok (.iconst 3, 1) := by decide +kernel
theorem dX14_readSum_63 : decode cX14_readSum 63 = .ok (.if_icmp .ne 10, 3) := by decide +kernel
theorem dX14_readSum_66 : decode cX14_readSum 66 = .ok (.aload_n 0, 1) := by decide +kernel
theorem dX14_readSum_67 : decode cX14_readSum 67 = .ok (.getfield 173, 3) := by decide +kernel
theorem dX14_readSum_70 : decode cX14_readSum 70 = .ok (.goto 4, 3) := by decide +kernel
theorem dX14_readSum_73 : decode cX14_readSum 73 = .ok (.iconst 1, 1) := by decide +kernel
theorem dX14_readSum_74 : decode cX14_readSum 74 = .ok (.iastore, 1) := by decide +kernel
theorem dX14_readSum_75 : decode cX14_readSum 75 = .ok (.aload_n 1, 1) := by decide +kernel
theorem dX14_readSum_76 : decode cX14_readSum 76 = .ok (.getfield 267, 3) := by decide +kernel
theorem dX14_readSum_79 : decode cX14_readSum 79 = .ok (.iload 5, 2) := by decide +kernel
theorem dX14_readSum_81 : decode cX14_readSum 81 = .ok (.iload 4, 2) := by decide +kernel
theorem dX14_readSum_83 : decode cX14_readSum 83 = .ok (.iastore, 1) := by decide +kernel
theorem dX14_readSum_84 : decode cX14_readSum 84 = .ok (.aload_n 0, 1) := by decide +kernel
theorem dX14_readSum_85 : decode cX14_readSum 85 = .ok (.invokevirtual 220, 3) := by decide +kernel
theorem dX14_readSum_88 : decode cX14_readSum 88 = .ok (.iload 4, 2) := by decide +kernel
theorem dX14_readSum_90 : decode cX14_readSum 90 = .ok (.iconst (-1), 1) := by decide +kernel
theorem dX14_readSum_91 : decode cX14_readSum 91 = .ok (.if_icmp .ne 31, 3) := by decide +kernel
theorem dX14_readSum_94 : decode cX14_readSum 94 = .ok (.aload_n 0, 1) := by decide +kernel
theorem dX14_readSum_95 : decode cX14_readSum 95 = .ok (.bipush 42, 2) := by decide +kernel
theorem dX14_readSum_97 : decode cX14_readSum 97 = .ok (.invokevirtual 249, 3) := by decide +kernel
theorem dX14_readSum_100 : decode cX14_readSum 100 = .ok (.ifCond .eq 22, 3) := by decide +kernel
theorem dX14_readSum_103 : decode cX14_readSum 103 = .ok (.aload_n 0, 1) := by decide +kernel
theorem dX14_readSum_104 : decode cX14_readSum 104 = .ok (.invokevirtual 220, 3) := by decide +kernel
theorem dX14_readSum_107 : decode cX14_readSum 107 = .ok (.aload_n 1, 1) := by decide +kernel
theorem dX14_readSum_108 : decode cX14_readSum 108 = .ok (.getfield 267, 3) := by decide +kernel
theorem dX14_readSum_111 : decode cX14_readSum 111 = .ok (.iload 5, 2) := by decide +kernel
theorem dX14_readSum_113 : decode cX14_readSum 113 = .ok (.aload_n 0, 1) := by decide +kernel
theorem dX14_readSum_114 : decode cX14_readSum 114 = .ok (.invokevirtual 261, 3) := by decide +kernel
theorem dX14_readSum_117 : decode cX14_readSum 117 = .ok (.iastore, 1) := by decide +kernel
theorem dX14_readSum_118 : decode cX14_readSum 118 = .ok (.aload_n 0, 1) := by decide +kernel
theorem dX14_readSum_119 : decode cX14_readSum 119 = .ok (.invokevirtual 220, 3) := by decide +kernel
theorem dX14_readSum_122 : decode cX14_readSum 122 = .ok (.aload_n 1, 1) := by decide +kernel
theorem dX14_readSum_123 : decode cX14_readSum 123 = .ok (.getfield 228, 3) := by decide +kernel
theorem dX14_readSum_126 : decode cX14_readSum 126 = .ok (.iload_n 2, 1) := by decide +kernel
theorem dX14_readSum_127 : decode cX14_readSum 127 = .ok (.dup2, 1) := by decide +kernel
theorem dX14_readSum_128 : decode cX14_readSum 128 = .ok (.iaload, 1) := by decide +kernel
theorem dX14_readSum_129 : decode cX14_readSum 129 = .ok (.iconst 1, 1) := by decide +kernel
theorem dX14_readSum_130 : decode cX14_readSum 130 = .ok (.iadd, 1) := by decide +kernel
theorem dX14_readSum_131 : decode cX14_readSum 131 = .ok (.iastore, 1) := by decide +kernel
theorem dX14_readSum_132 : decode cX14_readSum 132 = .ok (.aload_n 0, 1) := by decide +kernel
theorem dX14_readSum_133 : decode cX14_readSum 133 = .ok (.bipush 43, 2) := by decide +kernel
theorem dX14_readSum_135 : decode cX14_readSum 135 = .ok (.invokevirtual 249, 3) := by decide +kernel
theorem dX14_readSum_138 : decode cX14_readSum 138 = .ok (.istore_n 3, 1) := by decide +kernel
theorem dX14_readSum_139 : decode cX14_readSum 139 = .ok (.iload_n 3, 1) := by decide +kernel
theorem dX14_readSum_140 : decode cX14_readSum 140 = .ok (.ifCond .eq 7, 3) := by decide +kernel
theorem dX14_readSum_143 : decode cX14_readSum 143 = .ok (.aload_n 0, 1) := by decide +kernel
theorem dX14_readSum_144 : decode cX14_readSum 144 = .ok (.invokevirtual 220, 3) := by decide +kernel
theorem dX14_readSum_147 : decode cX14_readSum 147 = .ok (.goto (-145), 3) := by decide +kernel
theorem dX14_readSum_150 : decode cX14_readSum 150 = .ok (.return_, 1) := by decide +kernel
theorem dX14_feed_0 : decode cX14_feed 0 = .ok (.aload_n 0, 1) := by decide +kernel
theorem dX14_feed_1 : decode cX14_feed 1 = .ok (.iconst 0, 1) := by decide +kernel
theorem dX14_feed_2 : decode cX14_feed 2 = .ok (.putfield 112, 3) := by decide +kernel
theorem dX14_feed_5 : decode cX14_feed 5 = .ok (.aload_n 0, 1) := by decide +kernel
theorem dX14_feed_6 : decode cX14_feed 6 = .ok (.getfield 270, 3) := by decide +kernel
theorem dX14_feed_9 : decode cX14_feed 9 = .ok (.bipush 20, 2) := by decide +kernel
theorem dX14_feed_11 : decode cX14_feed 11 = .ok (.iadd, 1) := by decide +kernel
theorem dX14_feed_12 : decode cX14_feed 12 = .ok (.sipush 300, 3) := by decide +kernel
theorem dX14_feed_15 : decode cX14_feed 15 = .ok (.if_icmp .le 5, 3) := by decide +kernel
theorem dX14_feed_18 : decode cX14_feed 18 = .ok (.iconst (-1), 1) := by decide +kernel
theorem dX14_feed_19 : decode cX14_feed 19 = .ok (.ireturn, 1) := by decide +kernel
theorem dX14_feed_20 : decode cX14_feed 20 = .ok (.iconst 0, 1) := by decide +kernel
theorem dX14_feed_21 : decode cX14_feed 21 = .ok (.istore 6, 2) := by decide +kernel
theorem dX14_feed_23 : decode cX14_feed 23 = .ok (.iload 6, 2) := by decide +kernel
theorem dX14_feed_25 : decode cX14_feed 25 = .ok (.bipush 20, 2) := by decide +kernel
theorem dX14_feed_27 : decode cX14_feed 27 = .ok (.if_icmp .ge 90, 3) := by decide +kernel
theorem dX14_feed_30 : decode cX14_feed 30 = .ok (.iload 6, 2) := by decide +kernel
theorem dX14_feed_32 : decode cX14_feed 32 = .ok (.iconst 4, 1) := by decide +kernel
theorem dX14_feed_33 : decode cX14_feed 33 = .ok (.if_icmp .ge 7, 3) := by decide +kernel
theorem dX14_feed_36 : decode cX14_feed 36 = .ok (.iload_n 1, 1) := by decide +kernel
theorem dX14_feed_37 : decode cX14_feed 37 = .ok (.goto 39, 3) := by decide +kernel
theorem dX14_feed_40 : decode cX14_feed 40 = .ok (.iload 6, 2) := by decide +kernel
theorem dX14_feed_42 : decode cX14_feed 42 = .ok (.bipush 8, 2) := by decide +kernel
theorem dX14_feed_44 : decode cX14_feed 44 = .ok (.if_icmp .ge 7, 3) := by decide +kernel
theorem dX14_feed_47 : decode cX14_feed 47 = .ok (.iload_n 2, 1) := by decide +kernel
theorem dX14_feed_48 : decode cX14_feed 48 = .ok (.goto 28, 3) := by decide +kernel
theorem dX14_feed_51 : decode cX14_feed 51 = .ok (.iload 6, 2) := by decide +kernel
theorem dX14_feed_53 : decode cX14_feed 53 = .ok (.bipush 12, 2) := by decide +kernel
theorem dX14_feed_55 : decode cX14_feed 55 = .ok (.if_icmp .ge 7, 3) := by decide +kernel
theorem dX14_feed_58 : decode cX14_feed 58 = .ok (.iload_n 3, 1) := by decide +kernel
theorem dX14_feed_59 : decode cX14_feed 59 = .ok (.goto 17, 3) := by decide +kernel
theorem dX14_feed_62 : decode cX14_feed 62 = .ok (.iload 6, 2) := by decide +kernel
theorem dX14_feed_64 : decode cX14_feed 64 = .ok (.bipush 16, 2) := by decide +kernel
theorem dX14_feed_66 : decode cX14_feed 66 = .ok (.if_icmp .ge 8, 3) := by decide +kernel
theorem dX14_feed_69 : decode cX14_feed 69 = .ok (.iload 4, 2) := by decide +kernel
theorem dX14_feed_71 : decode cX14_feed 71 = .ok (.goto 5, 3) := by decide +kernel
theorem dX14_feed_74 : decode cX14_feed 74 = .ok (.iload 5, 2) := by decide +kernel
theorem dX14_feed_76 : decode cX14_feed 76 = .ok (.istore 7, 2) := by decide +kernel
theorem dX14_feed_78 : decode cX14_feed 78 = .ok (.aload_n 0, 1) := by decide +kernel
theorem dX14_feed_79 : decode cX14_feed 79 = .ok (.getfield 31, 3) := by decide +kernel
theorem dX14_feed_82 : decode cX14_feed 82 = .ok (.aload_n 0, 1) := by decide +kernel
theorem dX14_feed_83 : decode cX14_feed 83 = .ok (.getfield 270, 3) := by decide +kernel
theorem dX14_feed_86 : decode cX14_feed 86 = .ok (.iload 7, 2) := by decide +kernel
theorem dX14_feed_88 : decode cX14_feed 88 = .ok (.bipush 24, 2) := by decide +kernel
theorem dX14_feed_90 : decode cX14_feed 90 = .ok (.bipush 8, 2) := by decide +kernel
theorem dX14_feed_92 : decode cX14_feed 92 = .ok (.iload 6, 2) := by decide +kernel
theorem dX14_feed_94 : decode cX14_feed 94 = .ok (.iconst 4, 1) := by decide +kernel
theorem dX14_feed_95 : decode cX14_feed 95 = .ok (.irem, 1) := by decide +kernel
theorem dX14_feed_96 : decode cX14_feed 96 = .ok (.imul, 1) := by decide +kernel
theorem dX14_feed_97 : decode cX14_feed 97 = .ok (.isub, 1) := by decide +kernel
theorem dX14_feed_98 : decode cX14_feed 98 = .ok (.ishr, 1) := by decide +kernel
theorem dX14_feed_99 : decode cX14_feed 99 = .ok (.i2b, 1) := by decide +kernel
theorem dX14_feed_100 : decode cX14_feed 100 = .ok (.bastore, 1) := by decide +kernel
theorem dX14_feed_101 : decode cX14_feed 101 = .ok (.aload_n 0, 1) := by decide +kernel
theorem dX14_feed_102 : decode cX14_feed 102 = .ok (.dup, 1) := by decide +kernel
theorem dX14_feed_103 : decode cX14_feed 103 = .ok (.getfield 270, 3) := by decide +kernel
theorem dX14_feed_106 : decode cX14_feed 106 = .ok (.iconst 1, 1) := by decide +kernel
theorem dX14_feed_107 : decode cX14_feed 107 = .ok (.iadd, 1) := by decide +kernel
theorem dX14_feed_108 : decode cX14_feed 108 = .ok (.putfield 270, 3) := by decide +kernel
theorem dX14_feed_111 : decode cX14_feed 111 = .ok (.iinc 6 1, 3) := by decide +kernel
theorem dX14_feed_114 : decode cX14_feed 114 = .ok (.goto (-91), 3) := by decide +kernel
theorem dX14_feed_117 : decode cX14_feed 117 = .ok (.aload_n 0, 1) := by decide +kernel
theorem dX14_feed_118 : decode cX14_feed 118 = .ok (.getfield 270, 3) := by decide +kernel
theorem dX14_feed_121 : decode cX14_feed 121 = .ok (.ireturn, 1) := by decide +kernel
theorem dX14_isDay_0 : decode cX14_isDay 0 = .ok (.iload_n 0, 1) := by decide +kernel
theorem dX14_isDay_1 : decode cX14_isDay 1 = .ok (.iconst 0, 1) := by decide +kernel
theorem dX14_isDay_2 : decode cX14_isDay 2 = .ok (.ldc_w 273, 3) := by decide +kernel
theorem dX14_isDay_5 : decode cX14_isDay 5 = .ok (.invokestatic 231, 3) := by decide +kernel
theorem dX14_isDay_8 : decode cX14_isDay 8 = .ok (.ireturn, 1) := by decide +kernel
theorem dX14_isWill_0 : decode cX14_isWill 0 = .ok (.iload_n 1, 1) := by decide +kernel
theorem dX14_isWill_1 : decode cX14_isWill 1 = .ok (.ifCond .lt 15, 3) := by decide +kernel
theorem dX14_isWill_4 : decode cX14_isWill 4 = .ok (.iload_n 1, 1) := by decide +kernel
theorem dX14_isWill_5 : decode cX14_isWill 5 = .ok (.aload_n 0, 1) := by decide +kernel
theorem dX14_isWill_6 : decode cX14_isWill 6 = .ok (.getfield 118, 3) := by decide +kernel
theorem dX14_isWill_9 : decode cX14_isWill 9 = .ok (.if_icmp .ge 7, 3) := by decide +kernel
theorem dX14_isWill_12 : decode cX14_isWill 12 = .ok (.iconst 1, 1) := by decide +kernel
theorem dX14_isWill_13 : decode cX14_isWill 13 = .ok (.goto 4, 3) := by decide +kernel
theorem dX14_isWill_16 : decode cX14_isWill 16 = .ok (.iconst 0, 1) := by decide +kernel
theorem dX14_isWill_17 : decode cX14_isWill 17 = .ok (.ireturn, 1) := by decide +kernel
theorem dX14_scheme_0 : decode cX14_scheme 0 = .ok (.aload_n 0, 1) := by decide +kernel
theorem dX14_scheme_1 : decode cX14_scheme 1 = .ok (.iconst 0, 1) := by decide +kernel
theorem dX14_scheme_2 : decode cX14_scheme 2 = .ok (.putfield 112, 3) := by decide +kernel
theorem dX14_scheme_5 : decode cX14_scheme 5 = .ok (.aload_n 0, 1) := by decide +kernel
theorem dX14_scheme_6 : decode cX14_scheme 6 = .ok (.iload_n 1, 1) := by decide +kernel
theorem dX14_scheme_7 : decode cX14_scheme 7 = .ok (.invokevirtual 274, 3) := by decide +kernel
theorem dX14_scheme_10 : decode cX14_scheme 10 = .ok (.ifCond .ne 9, 3) := by decide +kernel
theorem dX14_scheme_13 : decode cX14_scheme 13 = .ok (.aload_n 0, 1) := by decide +kernel
theorem dX14_scheme_14 : decode cX14_scheme 14 = .ok (.iconst 1, 1) := by decide +kernel
theorem dX14_scheme_15 : decode cX14_scheme 15 = .ok (.invokevirtual 121, 3) := by decide +kernel
theorem dX14_scheme_18 : decode cX14_scheme 18 = .ok (.ireturn, 1) := by decide +kernel
theorem dX14_scheme_19 : decode cX14_scheme 19 = .ok (.iload_n 2, 1) := by decide +kernel
theorem dX14_scheme_20 : decode cX14_scheme 20 = .ok (.invokestatic 277, 3) := by decide +kernel
theorem dX14_scheme_23 : decode cX14_scheme 23 = .ok (.ifCond .eq 15, 3) := by decide +kernel
theorem dX14_scheme_26 : decode cX14_scheme 26 = .ok (.iload_n 3, 1) := by decide +kernel
theorem dX14_scheme_27 : decode cX14_scheme 27 = .ok (.ifCond .lt 11, 3) := by decide +kernel
theorem dX14_scheme_30 : decode cX14_scheme 30 = .ok (.iload_n 3, 1) := by decide +kernel
theorem dX14_scheme_31 : decode cX14_scheme 31 = .ok (.aload_n 0, 1) := by decide +kernel
theorem dX14_scheme_32 : decode cX14_scheme 32 = .ok (.getfield 270, 3) := by decide +kernel
theorem dX14_scheme_35 : decode cX14_scheme 35 = .ok (.if_icmp .le 9, 3) := by decide +kernel
theorem dX14_scheme_38 : decode cX14_scheme 38 = .ok (.aload_n 0, 1) := by decide +kernel
theorem dX14_scheme_39 : decode cX14_scheme 39 = .ok (.iconst 2, 1) := by decide +kernel
theorem dX14_scheme_40 : decode cX14_scheme 40 = .ok (.invokevirtual 121, 3) := by decide +kernel
theorem dX14_scheme_43 : decode cX14_scheme 43 = .ok (.ireturn, 1) := by decide +kernel
theorem dX14_scheme_44 : decode cX14_scheme 44 = .ok (.aload_n 0, 1) := by decide +kernel
theorem dX14_scheme_45 : decode cX14_scheme 45 = .ok (.iload_n 3, 1) := by decide +kernel
theorem dX14_scheme_46 : decode cX14_scheme 46 = .ok (.putfield 135, 3) := by decide +kernel
theorem dX14_scheme_49 : decode cX14_scheme 49 = .ok (.aload_n 0, 1) := by decide +kernel
theorem dX14_scheme_50 : decode cX14_scheme 50 = .ok (.iconst 0, 1) := by decide +kernel
theorem dX14_scheme_51 : decode cX14_scheme 51 = .ok (.putfield 270, 3) := by decide +kernel
theorem dX14_scheme_54 : decode cX14_scheme 54 = .ok (.aload_n 0, 1) := by decide +kernel
theorem dX14_scheme_55 : decode cX14_scheme 55 = .ok (.iconst 0, 1) := by decide +kernel
theorem dX14_scheme_56 : decode cX14_scheme 56 = .ok (.putfield 150, 3) := by decide +kernel
theorem dX14_scheme_59 : decode cX14_scheme 59 = .ok (.aload_n 0, 1) := by decide +kernel
theorem dX14_scheme_60 : decode cX14_scheme 60 = .ok (.iconst 0, 1) := by decide +kernel
theorem dX14_scheme_61 : decode cX14_scheme 61 = .ok (.putfield 280, 3) := by decide +kernel
theorem dX14_scheme_64 : decode cX14_scheme 64 = .ok (.aload_n 0, 1) := by decide +kernel
theorem dX14_scheme_65 : decode cX14_scheme 65 = .ok (.getfield 283, 3) := by decide +kernel
theorem dX14_scheme_68 : decode cX14_scheme 68 = .ok (.bipush 40, 2) := by decide +kernel
theorem dX14_scheme_70 : decode cX14_scheme 70 = .ok (.if_icmp .ne 10, 3) := by decide +kernel
theorem dX14_scheme_73 : decode cX14_scheme 73 = .ok (.aload_n 0, 1) := by decide +kernel
theorem dX14_scheme_74 : decode cX14_scheme 74 = .ok (.getfield 20, 3) := by decide +kernel
theorem dX14_scheme_77 : decode cX14_scheme 77 = .ok (.goto 34, 3) := by decide +kernel
theorem dX14_scheme_80 : decode cX14_scheme 80 = .ok (.aload_n 0, 1) := by decide +kernel
theorem dX14_scheme_81 : decode cX14_scheme 81 = .ok (.getfield 15, 3) := by decide +kernel
theorem dX14_scheme_84 : decode cX14_scheme 84 = .ok (.aload_n 0, 1) := by decide +kernel
theorem dX14_scheme_85 : decode cX14_scheme 85 = .ok (.getfield 283, 3) := by decide +kernel
theorem dX14_scheme_88 : decode cX14_scheme 88 = .ok (.aaload, 1) := by decide +kernel
theorem dX14_scheme_89 : decode cX14_scheme 89 = .ok (.ifnonnull 13, 3) := by decide +kernel
theorem dX14_scheme_92 : decode cX14_scheme 92 = .ok (.new 13, 3) := by decide +kernel
theorem dX14_scheme_95 : decode cX14_scheme 95 = .ok (.dup, 1) := by decide +kernel
theorem dX14_scheme_96 : decode cX14_scheme 96 = .ok (.invokespecial 19, 3) := by decide +kernel
theorem dX14_scheme_99 : decode cX14_scheme 99 = .ok (.goto 12, 3) := by decide +kernel
theorem dX14_scheme_102 : decode cX14_scheme 102 = .ok (.aload_n 0, 1) := by decide +kernel
theorem dX14_scheme_103 : decode cX14_scheme 103 = .ok (.getfield 15, 3) := by decide +kernel
theorem dX14_scheme_106 : decode cX14_scheme 106 = .ok (.aload_n 0, 1) := by decide +kernel
theorem dX14_scheme_107 : decode cX14_scheme 107 = .ok (.getfield 283, 3) := by decide +kernel
theorem dX14_scheme_110 : decode cX14_scheme 110 = .ok (.aaload, 1) := by decide +kernel
theorem dX14_scheme_111 : decode cX14_scheme 111 = .ok (.astore 4, 2) := by decide +kernel
theorem dX14_scheme_113 : decode cX14_scheme 113 = .ok (.aload_n 0, 1) := by decide +kernel
theorem dX14_scheme_114 : decode cX14_scheme 114 = .ok (.getfield 283, 3) := by decide +kernel
theorem dX14_scheme_117 : decode cX14_scheme 117 = .ok (.bipush 40, 2) := by decide +kernel
theorem dX14_scheme_119 : decode cX14_scheme 119 = .ok (.if_icmp .ge 14, 3) := by decide +kernel
theorem dX14_scheme_122 : decode cX14_scheme 122 = .ok (.aload_n 0, 1) := by decide +kernel
theorem dX14_scheme_123 : decode cX14_scheme 123 = .ok (.getfield 15, 3) := by decide +kernel
theorem dX14_scheme_126 : decode cX14_scheme 126 = .ok (.aload_n 0, 1) := by decide +kernel
theorem dX14_scheme_127 : decode cX14_scheme 127 = .ok (.getfield 283, 3) := by decide +kernel
theorem dX14_scheme_130 : decode cX14_scheme 130 = .ok (.aload 4, 2) := by decide +kernel
theorem dX14_scheme_132 : decode cX14_scheme 132 = .ok (.aastore, 1) := by decide +kernel
theorem dX14_scheme_133 : decode cX14_scheme 133 = .ok (.aload_n 0, 1) := by decide +kernel
theorem dX14_scheme_134 : decode cX14_scheme 134 = .ok (.aload 4, 2) := by decide +kernel
theorem dX14_scheme_136 : decode cX14_scheme 136 = .ok (.invokevirtual 286, 3) := by decide +kernel
theorem dX14_scheme_139 : decode cX14_scheme 139 = .ok (.goto 30, 3) := by decide +kernel
theorem dX14_scheme_142 : decode cX14_scheme 142 = .ok (.astore 5, 2) := by decide +kernel
theorem dX14_scheme_144 : decode cX14_scheme 144 = .ok (.aload_n 0, 1) := by decide +kernel
theorem dX14_scheme_145 : decode cX14_scheme 145 = .ok (.aload 5, 2) := by decide +kernel
theorem dX14_scheme_147 : decode cX14_scheme 147 = .ok (.getfield 128, 3) := by decide +kernel
theorem dX14_scheme_150 : decode cX14_scheme 150 = .ok (.putfield 280, 3) := by decide +kernel
theorem dX14_scheme_153 : decode cX14_scheme 153 = .ok (.aload_n 0, 1) := by decide +kernel
theorem dX14_scheme_154 : decode cX14_scheme 154 = .ok (.iconst 4, 1) := by decide +kernel
theorem dX14_scheme_155 : decode cX14_scheme 155 = .ok (.putfield 115, 3) := by decide +kernel
theorem dX14_scheme_158 : decode cX14_scheme 158 = .ok (.aload_n 0, 1) := by decide +kernel
theorem dX14_scheme_159 : decode cX14_scheme 159 = .ok (.aload 5, 2) := by decide +kernel
theorem dX14_scheme_161 : decode cX14_scheme 161 = .ok (.getfield 134, 3) := by decide +kernel
theorem dX14_scheme_164 : decode cX14_scheme 164 = .ok (.putfield 9, 3) := by decide +kernel
theorem dX14_scheme_167 : decode cX14_scheme 167 = .ok (.iconst (-1), 1) := by decide +kernel
theorem dX14_scheme_168 : decode cX14_scheme 168 = .ok (.ireturn, 1) := by decide +kernel
theorem dX14_scheme_169 : decode cX14_scheme 169 = .ok (.aload_n 0, 1) := by decide +kernel
theorem dX14_scheme_170 : decode cX14_scheme 170 = .ok (.getfield 283, 3) := by decide +kernel
theorem dX14_scheme_173 : decode cX14_scheme 173 = .ok (.bipush 40, 2) := by decide +kernel
theorem dX14_scheme_175 : decode cX14_scheme 175 = .ok (.if_icmp .ne 9, 3) := by decide +kernel
theorem dX14_scheme_178 : decode cX14_scheme 178 = .ok (.aload_n 0, 1) := by decide +kernel
theorem dX14_scheme_179 : decode cX14_scheme 179 = .ok (.iconst 3, 1) := by decide +kernel
theorem dX14_scheme_180 : decode cX14_scheme 180 = .ok (.invokevirtual 121, 3) := by decide +kernel
theorem dX14_scheme_183 : decode cX14_scheme 183 = .ok (.ireturn, 1) := by decide +kernel
theorem dX14_scheme_184 : decode cX14_scheme 184 = .ok (.aload 4, 2) := by decide +kernel
theorem dX14_scheme_186 : decode cX14_scheme 186 = .ok (.iload_n 1, 1) := by decide +kernel
theorem dX14_scheme_187 : decode cX14_scheme 187 = .ok (.putfield 289, 3) := by decide +kernel
theorem dX14_scheme_190 : decode cX14_scheme 190 = .ok (.aload 4, 2) := by decide +kernel
theorem dX14_scheme_192 : decode cX14_scheme 192 = .ok (.iload_n 2, 1) := by decide +kernel
theorem dX14_scheme_193 : decode cX14_scheme 193 = .ok (.putfield 292, 3) := by decide +kernel
theorem dX14_scheme_196 : decode cX14_scheme 196 = .ok (.aload_n 0, 1) := by decide +kernel
theorem dX14_scheme_197 : decode cX14_scheme 197 = .ok (.dup, 1) := by decide +kernel
theorem dX14_scheme_198 : decode cX14_scheme 198 = .ok (.getfield 283, 3) := by decide +kernel
theorem dX14_scheme_201 : decode cX14_scheme 201 = .ok (.iconst 1, 1) := by decide +kernel
theorem dX14_scheme_202 : decode cX14_scheme 202 = .ok (.iadd, 1) := by decide +kernel
theorem dX14_scheme_203 : decode cX14_scheme 203 = .ok (.putfield 283, 3) := by decide +kernel
theorem dX14_scheme_206 : decode cX14_scheme 206 = .ok (.aload_n 0, 1) := by decide +kernel
theorem dX14_scheme_207 : decode cX14_scheme 207 = .ok (.aload_n 0, 1) := by decide +kernel
theorem dX14_scheme_208 : decode cX14_scheme 208 = .ok (.getfield 283, 3) := by decide +kernel
theorem dX14_scheme_211 : decode cX14_scheme 211 = .ok (.iconst 1, 1) := by decide +kernel
theorem dX14_scheme_212 : decode cX14_scheme 212 = .ok (.isub, 1) := by decide +kernel
theorem dX14_scheme_213 : decode cX14_scheme 213 = .ok (.invokevirtual 125, 3) := by decide +kernel
theorem dX14_scheme_216 : decode cX14_scheme 216 = .ok (.ireturn, 1) := by decide +kernel
theorem dX14_fault_0 : decode cX14_fault 0 = .ok (.aload_n 0, 1) := by decide +kernel
theorem dX14_fault_1 : decode cX14_fault 1 = .ok (.iconst 0, 1) := by decide +kernel
theorem dX14_fault_2 : decode cX14_fault 2 = .ok (.putfield 112, 3) := by decide +kernel
theorem dX14_fault_5 : decode cX14_fault 5 = .ok (.aload_n 0, 1) := by decide +kernel
