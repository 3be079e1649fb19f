theorem dX4_readOne_0 : decode cX4_readOne 0 = .ok (.aload_n 0, 1) := by decide +kernel
theorem dX4_readOne_1 : decode cX4_readOne 1 = .ok (.getfield 28, 3) := by decide +kernel
theorem dX4_readOne_4 : decode cX4_readOne 4 = .ok (.getfield 108, 3) := by decide +kernel
theorem dX4_readOne_7 : decode cX4_readOne 7 = .ok (.lookupswitch 159 #[(4, 114), (10, 33), (40, 71)], 33) := by decide +kernel
theorem dX4_readOne_40 : decode cX4_readOne 40 = .ok (.aload_n 0, 1) := by decide +kernel
theorem dX4_readOne_41 : decode cX4_readOne 41 = .ok (.dup, 1) := by decide +kernel
theorem dX4_readOne_42 : decode cX4_readOne 42 = .ok (.getfield 71, 3) := by decide +kernel
theorem dX4_readOne_45 : decode cX4_readOne 45 = .ok (.iconst 1, 1) := by decide +kernel
theorem dX4_readOne_46 : decode cX4_readOne 46 = .ok (.iadd, 1) := by decide +kernel
theorem dX4_readOne_47 : decode cX4_readOne 47 = .ok (.putfield 71, 3) := by decide +kernel
theorem dX4_readOne_50 : decode cX4_readOne 50 = .ok (.aload_n 0, 1) := by decide +kernel
theorem dX4_readOne_51 : decode cX4_readOne 51 = .ok (.getfield 12, 3) := by decide +kernel
theorem dX4_readOne_54 : decode cX4_readOne 54 = .ok (.bipush 10, 2) := by decide +kernel
theorem dX4_readOne_56 : decode cX4_readOne 56 = .ok (.invokevirtual 123, 3) := by decide +kernel
theorem dX4_readOne_59 : decode cX4_readOne 59 = .ok (.aload_n 0, 1) := by decide +kernel
theorem dX4_readOne_60 : decode cX4_readOne 60 = .ok (.getfield 71, 3) := by decide +kernel
theorem dX4_readOne_63 : decode cX4_readOne 63 = .ok (.bipush 8, 2) := by decide +kernel
theorem dX4_readOne_65 : decode cX4_readOne 65 = .ok (.if_icmp .le 11, 3) := by decide +kernel
theorem dX4_readOne_68 : decode cX4_readOne 68 = .ok (.aload_n 0, 1) := by decide +kernel
theorem dX4_readOne_69 : decode cX4_readOne 69 = .ok (.iconst 4, 1) := by decide +kernel
theorem dX4_readOne_70 : decode cX4_readOne 70 = .ok (.invokevirtual 111, 3) := by decide +kernel
theorem dX4_readOne_73 : decode cX4_readOne 73 = .ok (.goto 4, 3) := by decide +kernel
theorem dX4_readOne_76 : decode cX4_readOne 76 = .ok (.iconst 4, 1) := by decide +kernel
theorem dX4_readOne_77 : decode cX4_readOne 77 = .ok (.ireturn, 1) := by decide +kernel
theorem dX4_readOne_78 : decode cX4_readOne 78 = .ok (.aload_n 0, 1) := by decide +kernel
theorem dX4_readOne_79 : decode cX4_readOne 79 = .ok (.iconst 0, 1) := by decide +kernel
theorem dX4_readOne_80 : decode cX4_readOne 80 = .ok (.putfield 71, 3) := by decide +kernel
theorem dX4_readOne_83 : decode cX4_readOne 83 = .ok (.aload_n 0, 1) := by decide +kernel
theorem dX4_readOne_84 : decode cX4_readOne 84 = .ok (.dup, 1) := by decide +kernel
theorem dX4_readOne_85 : decode cX4_readOne 85 = .ok (.getfield 68, 3) := by decide +kernel
theorem dX4_readOne_88 : decode cX4_readOne 88 = .ok (.iconst 1, 1) := by decide +kernel
theorem dX4_readOne_89 : decode cX4_readOne 89 = .ok (.iadd, 1) := by decide +kernel
theorem dX4_readOne_90 : decode cX4_readOne 90 = .ok (.putfield 68, 3) := by decide +kernel
theorem dX4_readOne_93 : decode cX4_readOne 93 = .ok (.aload_n 0, 1) := by decide +kernel
theorem dX4_readOne_94 : decode cX4_readOne 94 = .ok (.getfield 12, 3) := by decide +kernel
theorem dX4_readOne_97 : decode cX4_readOne 97 = .ok (.bipush 40, 2) := by decide +kernel
theorem dX4_readOne_99 : decode cX4_readOne 99 = .ok (.invokevirtual 123, 3) := by decide +kernel
theorem dX4_readOne_102 : decode cX4_readOne 102 = .ok (.aload_n 0, 1) := by decide +kernel
theorem dX4_readOne_103 : decode cX4_readOne 103 = .ok (.getfield 68, 3) := by decide +kernel
theorem dX4_readOne_106 : decode cX4_readOne 106 = .ok (.bipush 8, 2) := by decide +kernel
theorem dX4_readOne_108 : decode cX4_readOne 108 = .ok (.if_icmp .le 11, 3) := by decide +kernel
theorem dX4_readOne_111 : decode cX4_readOne 111 = .ok (.aload_n 0, 1) := by decide +kernel
theorem dX4_readOne_112 : decode cX4_readOne 112 = .ok (.iconst 4, 1) := by decide +kernel
theorem dX4_readOne_113 : decode cX4_readOne 113 = .ok (.invokevirtual 111, 3) := by decide +kernel
theorem dX4_readOne_116 : decode cX4_readOne 116 = .ok (.goto 4, 3) := by decide +kernel
theorem dX4_readOne_119 : decode cX4_readOne 119 = .ok (.iconst 4, 1) := by decide +kernel
theorem dX4_readOne_120 : decode cX4_readOne 120 = .ok (.ireturn, 1) := by decide +kernel
theorem dX4_readOne_121 : decode cX4_readOne 121 = .ok (.aload_n 0, 1) := by decide +kernel
theorem dX4_readOne_122 : decode cX4_readOne 122 = .ok (.iconst 0, 1) := by decide +kernel
theorem dX4_readOne_123 : decode cX4_readOne 123 = .ok (.putfield 71, 3) := by decide +kernel
theorem dX4_readOne_126 : decode cX4_readOne 126 = .ok (.aload_n 0, 1) := by decide +kernel
theorem dX4_readOne_127 : decode cX4_readOne 127 = .ok (.dup, 1) := by decide +kernel
theorem dX4_readOne_128 : decode cX4_readOne 128 = .ok (.getfield 65, 3) := by decide +kernel
theorem dX4_readOne_131 : decode cX4_readOne 131 = .ok (.iconst 1, 1) := by decide +kernel
theorem dX4_readOne_132 : decode cX4_readOne 132 = .ok (.iadd, 1) := by decide +kernel
theorem dX4_readOne_133 : decode cX4_readOne 133 = .ok (.putfield 65, 3) := by decide +kernel
theorem dX4_readOne_136 : decode cX4_readOne 136 = .ok (.aload_n 0, 1) := by decide +kernel
theorem dX4_readOne_137 : decode cX4_readOne 137 = .ok (.aload_n 0, 1) := by decide +kernel
theorem dX4_readOne_138 : decode cX4_readOne 138 = .ok (.getfield 28, 3) := by decide +kernel
theorem dX4_readOne_141 : decode cX4_readOne 141 = .ok (.getfield 117, 3) := by decide +kernel
theorem dX4_readOne_144 : decode cX4_readOne 144 = .ok (.putfield 126, 3) := by decide +kernel
theorem dX4_readOne_147 : decode cX4_readOne 147 = .ok (.aload_n 0, 1) := by decide +kernel
theorem dX4_readOne_148 : decode cX4_readOne 148 = .ok (.getfield 65, 3) := by decide +kernel
theorem dX4_readOne_151 : decode cX4_readOne 151 = .ok (.bipush 20, 2) := by decide +kernel
theorem dX4_readOne_153 : decode cX4_readOne 153 = .ok (.if_icmp .le 11, 3) := by decide +kernel
theorem dX4_readOne_156 : decode cX4_readOne 156 = .ok (.aload_n 0, 1) := by decide +kernel
theorem dX4_readOne_157 : decode cX4_readOne 157 = .ok (.iconst 4, 1) := by decide +kernel
theorem dX4_readOne_158 : decode cX4_readOne 158 = .ok (.invokevirtual 111, 3) := by decide +kernel
theorem dX4_readOne_161 : decode cX4_readOne 161 = .ok (.goto 4, 3) := by decide +kernel
theorem dX4_readOne_164 : decode cX4_readOne 164 = .ok (.iconst 5, 1) := by decide +kernel
theorem dX4_readOne_165 : decode cX4_readOne 165 = .ok (.ireturn, 1) := by decide +kernel
theorem dX4_readOne_166 : decode cX4_readOne 166 = .ok (.aload_n 0, 1) := by decide +kernel
theorem dX4_readOne_167 : decode cX4_readOne 167 = .ok (.invokevirtual 129, 3) := by decide +kernel
theorem dX4_readOne_170 : decode cX4_readOne 170 = .ok (.ireturn, 1) := by decide +kernel
theorem dX4_readSign_0 : decode cX4_readSign 0 = .ok (.aload_n 0, 1) := by decide +kernel
theorem dX4_readSign_1 : decode cX4_readSign 1 = .ok (.aload_n 0, 1) := by decide +kernel
theorem dX4_readSign_2 : decode cX4_readSign 2 = .ok (.getfield 28, 3) := by decide +kernel
theorem dX4_readSign_5 : decode cX4_readSign 5 = .ok (.getfield 108, 3) := by decide +kernel
theorem dX4_readSign_8 : decode cX4_readSign 8 = .ok (.putfield 132, 3) := by decide +kernel
theorem dX4_readSign_11 : decode cX4_readSign 11 = .ok (.aload_n 0, 1) := by decide +kernel
theorem dX4_readSign_12 : decode cX4_readSign 12 = .ok (.getfield 132, 3) := by decide +kernel
theorem dX4_readSign_15 : decode cX4_readSign 15 = .ok (.bipush 60, 2) := by decide +kernel
theorem dX4_readSign_17 : decode cX4_readSign 17 = .ok (.if_icmp .eq 21, 3) := by decide +kernel
theorem dX4_readSign_20 : decode cX4_readSign 20 = .ok (.aload_n 0, 1) := by decide +kernel
theorem dX4_readSign_21 : decode cX4_readSign 21 = .ok (.getfield 132, 3) := by decide +kernel
theorem dX4_readSign_24 : decode cX4_readSign 24 = .ok (.bipush 62, 2) := by decide +kernel
theorem dX4_readSign_26 : decode cX4_readSign 26 = .ok (.if_icmp .eq 12, 3) := by decide +kernel
theorem dX4_readSign_29 : decode cX4_readSign 29 = .ok (.aload_n 0, 1) := by decide +kernel
theorem dX4_readSign_30 : decode cX4_readSign 30 = .ok (.getfield 132, 3) := by decide +kernel
theorem dX4_readSign_33 : decode cX4_readSign 33 = .ok (.bipush 61, 2) := by decide +kernel
theorem dX4_readSign_35 : decode cX4_readSign 35 = .ok (.if_icmp .ne 8, 3) := by decide +kernel
theorem dX4_readSign_38 : decode cX4_readSign 38 = .ok (.bipush 6, 2) := by decide +kernel
theorem dX4_readSign_40 : decode cX4_readSign 40 = .ok (.goto 8, 3) := by decide +kernel
theorem dX4_readSign_43 : decode cX4_readSign 43 = .ok (.aload_n 0, 1) := by decide +kernel
theorem dX4_readSign_44 : decode cX4_readSign 44 = .ok (.iconst 1, 1) := by decide +kernel
theorem dX4_readSign_45 : decode cX4_readSign 45 = .ok (.invokevirtual 111, 3) := by decide +kernel
theorem dX4_readSign_48 : decode cX4_readSign 48 = .ok (.ireturn, 1) := by decide +kernel
theorem dX4_readValue_0 : decode cX4_readValue 0 = .ok (.aload_n 0, 1) := by decide +kernel
theorem dX4_readValue_1 : decode cX4_readValue 1 = .ok (.getfield 28, 3) := by decide +kernel
theorem dX4_readValue_4 : decode cX4_readValue 4 = .ok (.getfield 108, 3) := by decide +kernel
theorem dX4_readValue_7 : decode cX4_readValue 7 = .ok (.iconst 2, 1) := by decide +kernel
theorem dX4_readValue_8 : decode cX4_readValue 8 = .ok (.if_icmp .eq 9, 3) := by decide +kernel
theorem dX4_readValue_11 : decode cX4_readValue 11 = .ok (.aload_n 0, 1) := by decide +kernel
theorem dX4_readValue_12 : decode cX4_readValue 12 = .ok (.iconst 1, 1) := by decide +kernel
theorem dX4_readValue_13 : decode cX4_readValue 13 = .ok (.invokevirtual 111, 3) := by decide +kernel
theorem dX4_readValue_16 : decode cX4_readValue 16 = .ok (.ireturn, 1) := by decide +kernel
theorem dX4_readValue_17 : decode cX4_readValue 17 = .ok (.aload_n 0, 1) := by decide +kernel
theorem dX4_readValue_18 : decode cX4_readValue 18 = .ok (.getfield 12, 3) := by decide +kernel
theorem dX4_readValue_21 : decode cX4_readValue 21 = .ok (.aload_n 0, 1) := by decide +kernel
theorem dX4_readValue_22 : decode cX4_readValue 22 = .ok (.getfield 132, 3) := by decide +kernel
theorem dX4_readValue_25 : decode cX4_readValue 25 = .ok (.aload_n 0, 1) := by decide +kernel
theorem dX4_readValue_26 : decode cX4_readValue 26 = .ok (.getfield 126, 3) := by decide +kernel
theorem dX4_readValue_29 : decode cX4_readValue 29 = .ok (.aload_n 0, 1) := by decide +kernel
theorem dX4_readValue_30 : decode cX4_readValue 30 = .ok (.getfield 28, 3) := by decide +kernel
theorem dX4_readValue_33 : decode cX4_readValue 33 = .ok (.getfield 117, 3) := by decide +kernel
theorem dX4_readValue_36 : decode cX4_readValue 36 = .ok (.invokestatic 135, 3) := by decide +kernel
theorem dX4_readValue_39 : decode cX4_readValue 39 = .ok (.invokevirtual 140, 3) := by decide +kernel
theorem dX4_readValue_42 : decode cX4_readValue 42 = .ok (.aload_n 0, 1) := by decide +kernel
theorem dX4_readValue_43 : decode cX4_readValue 43 = .ok (.getfield 12, 3) := by decide +kernel
theorem dX4_readValue_46 : decode cX4_readValue 46 = .ok (.invokevirtual 143, 3) := by decide +kernel
theorem dX4_readValue_49 : decode cX4_readValue 49 = .ok (.bipush 7, 2) := by decide +kernel
theorem dX4_readValue_51 : decode cX4_readValue 51 = .ok (.ireturn, 1) := by decide +kernel
theorem dX4_readBehindOne_0 : decode cX4_readBehindOne 0 = .ok (.aload_n 0, 1) := by decide +kernel
theorem dX4_readBehindOne_1 : decode cX4_readBehindOne 1 = .ok (.getfield 28, 3) := by decide +kernel
theorem dX4_readBehindOne_4 : decode cX4_readBehindOne 4 = .ok (.getfield 108, 3) := by decide +kernel
theorem dX4_readBehindOne_7 : decode cX4_readBehindOne 7 = .ok (.bipush 9, 2) := by decide +kernel
theorem dX4_readBehindOne_9 : decode cX4_readBehindOne 9 = .ok (.if_icmp .eq 15, 3) := by decide +kernel
theorem dX4_readBehindOne_12 : decode cX4_readBehindOne 12 = .ok (.aload_n 0, 1) := by decide +kernel
theorem dX4_readBehindOne_13 : decode cX4_readBehindOne 13 = .ok (.getfield 28, 3) := by decide +kernel
theorem dX4_readBehindOne_16 : decode cX4_readBehindOne 16 = .ok (.getfield 108, 3) := by decide +kernel
theorem dX4_readBehindOne_19 : decode cX4_readBehindOne 19 = .ok (.bipush 8, 2) := by decide +kernel
theorem dX4_readBehindOne_21 : decode cX4_readBehindOne 21 = .ok (.if_icmp .ne 19, 3) := by decide +kernel
theorem dX4_readBehindOne_24 : decode cX4_readBehindOne 24 = .ok (.aload_n 0, 1) := by decide +kernel
theorem dX4_readBehindOne_25 : decode cX4_readBehindOne 25 = .ok (.getfield 12, 3) := by decide +kernel
theorem dX4_readBehindOne_28 : decode cX4_readBehindOne 28 = .ok (.aload_n 0, 1) := by decide +kernel
theorem dX4_readBehindOne_29 : decode cX4_readBehindOne 29 = .ok (.getfield 28, 3) := by decide +kernel
theorem dX4_readBehindOne_32 : decode cX4_readBehindOne 32 = .ok (.getfield 108, 3) := by decide +kernel
theorem dX4_readBehindOne_35 : decode cX4_readBehindOne 35 = .ok (.invokevirtual 146, 3) := by decide +kernel
theorem dX4_readBehindOne_38 : decode cX4_readBehindOne 38 = .ok (.iconst 4, 1) := by decide +kernel
theorem dX4_readBehindOne_39 : decode cX4_readBehindOne 39 = .ok (.ireturn, 1) := by decide +kernel
theorem dX4_readBehindOne_40 : decode cX4_readBehindOne 40 = .ok (.aload_n 0, 1) := by decide +kernel
theorem dX4_readBehindOne_41 : decode cX4_readBehindOne 41 = .ok (.getfield 68, 3) := by decide +kernel
theorem dX4_readBehindOne_44 : decode cX4_readBehindOne 44 = .ok (.ifCond .ne 15, 3) := by decide +kernel
theorem dX4_readBehindOne_47 : decode cX4_readBehindOne 47 = .ok (.aload_n 0, 1) := by decide +kernel
theorem dX4_readBehindOne_48 : decode cX4_readBehindOne 48 = .ok (.getfield 12, 3) := by decide +kernel
theorem dX4_readBehindOne_51 : decode cX4_readBehindOne 51 = .ok (.invokevirtual 149, 3) := by decide +kernel
theorem dX4_readBehindOne_54 : decode cX4_readBehindOne 54 = .ok (.aload_n 0, 1) := by decide +kernel
theorem dX4_readBehindOne_55 : decode cX4_readBehindOne 55 = .ok (.invokevirtual 81, 3) := by decide +kernel
theorem dX4_readBehindOne_58 : decode cX4_readBehindOne 58 = .ok (.ireturn, 1) := by decide +kernel
theorem dX4_readBehindOne_59 : decode cX4_readBehindOne 59 = .ok (.aload_n 0, 1) := by decide +kernel
theorem dX4_readBehindOne_60 : decode cX4_readBehindOne 60 = .ok (.getfield 28, 3) := by decide +kernel
theorem dX4_readBehindOne_63 : decode cX4_readBehindOne 63 = .ok (.getfield 108, 3) := by decide +kernel
theorem dX4_readBehindOne_66 : decode cX4_readBehindOne 66 = .ok (.bipush 41, 2) := by decide +kernel
theorem dX4_readBehindOne_68 : decode cX4_readBehindOne 68 = .ok (.if_icmp .eq 9, 3) := by decide +kernel
theorem dX4_readBehindOne_71 : decode cX4_readBehindOne 71 = .ok (.aload_n 0, 1) := by decide +kernel
theorem dX4_readBehindOne_72 : decode cX4_readBehindOne 72 = .ok (.iconst 1, 1) := by decide +kernel
theorem dX4_readBehindOne_73 : decode cX4_readBehindOne 73 = .ok (.invokevirtual 111, 3) := by decide +kernel
theorem dX4_readBehindOne_76 : decode cX4_readBehindOne 76 = .ok (.ireturn, 1) := by decide +kernel
theorem dX4_readBehindOne_77 : decode cX4_readBehindOne 77 = .ok (.aload_n 0, 1) := by decide +kernel
theorem dX4_readBehindOne_78 : decode cX4_readBehindOne 78 = .ok (.dup, 1) := by decide +kernel
theorem dX4_readBehindOne_79 : decode cX4_readBehindOne 79 = .ok (.getfield 68, 3) := by decide +kernel
theorem dX4_readBehindOne_82 : decode cX4_readBehindOne 82 = .ok (.iconst 1, 1) := by decide +kernel
theorem dX4_readBehindOne_83 : decode cX4_readBehindOne 83 = .ok (.isub, 1) := by decide +kernel
theorem dX4_readBehindOne_84 : decode cX4_readBehindOne 84 = .ok (.putfield 68, 3) := by decide +kernel
theorem dX4_readBehindOne_87 : decode cX4_readBehindOne 87 = .ok (.aload_n 0, 1) := by decide +kernel
theorem dX4_readBehindOne_88 : decode cX4_readBehindOne 88 = .ok (.getfield 12, 3) := by decide +kernel
theorem dX4_readBehindOne_91 : decode cX4_readBehindOne 91 = .ok (.invokevirtual 152, 3) := by decide +kernel
theorem dX4_readBehindOne_94 : decode cX4_readBehindOne 94 = .ok (.bipush 7, 2) := by decide +kernel
theorem dX4_readBehindOne_96 : decode cX4_readBehindOne 96 = .ok (.ireturn, 1) := by decide +kernel
theorem dX4_readTerm_0 : decode cX4_readTerm 0 = .ok (.aload_n 0, 1) := by decide +kernel
theorem dX4_readTerm_1 : decode cX4_readTerm 1 = .ok (.getfield 28, 3) := by decide +kernel
theorem dX4_readTerm_4 : decode cX4_readTerm 4 = .ok (.getfield 108, 3) := by decide +kernel
theorem dX4_readTerm_7 : decode cX4_readTerm 7 = .ok (.iconst 2, 1) := by decide +kernel
theorem dX4_readTerm_8 : decode cX4_readTerm 8 = .ok (.if_icmp .eq 19, 3) := by decide +kernel
theorem dX4_readTerm_11 : decode cX4_readTerm 11 = .ok (.aload_n 0, 1) := by decide +kernel
theorem dX4_readTerm_12 : decode cX4_readTerm 12 = .ok (.getfield 28, 3) := by decide +kernel
theorem dX4_readTerm_15 : decode cX4_readTerm 15 = .ok (.getfield 108, 3) := by decide +kernel
theorem dX4_readTerm_18 : decode cX4_readTerm 18 = .ok (.iconst 4, 1) := by decide +kernel
theorem dX4_readTerm_19 : decode cX4_readTerm 19 = .ok (.if_icmp .eq 8, 3) := by decide +kernel
theorem dX4_readTerm_22 : decode cX4_readTerm 22 = .ok (.aload_n 0, 1) := by decide +kernel
theorem dX4_readTerm_23 : decode cX4_readTerm 23 = .ok (.invokevirtual 129, 3) := by decide +kernel
theorem dX4_readTerm_26 : decode cX4_readTerm 26 = .ok (.ireturn, 1) := by decide +kernel
theorem dX4_readTerm_27 : decode cX4_readTerm 27 = .ok (.aload_n 0, 1) := by decide +kernel
theorem dX4_readTerm_28 : decode cX4_readTerm 28 = .ok (.dup, 1) := by decide +kernel
theorem dX4_readTerm_29 : decode cX4_readTerm 29 = .ok (.getfield 114, 3) := by decide +kernel
theorem dX4_readTerm_32 : decode cX4_readTerm 32 = .ok (.iconst 1, 1) := by decide +kernel
theorem dX4_readTerm_33 : decode cX4_readTerm 33 = .ok (.iadd, 1) := by decide +kernel
theorem dX4_readTerm_34 : decode cX4_readTerm 34 = .ok (.putfield 114, 3) := by decide +kernel
theorem dX4_readTerm_37 : decode cX4_readTerm 37 = .ok (.aload_n 0, 1) := by decide +kernel
theorem dX4_readTerm_38 : decode cX4_readTerm 38 = .ok (.getfield 114, 3) := by decide +kernel
theorem dX4_readTerm_41 : decode cX4_readTerm 41 = .ok (.iconst 4, 1) := by decide +kernel
theorem dX4_readTerm_42 : decode cX4_readTerm 42 = .ok (.if_icmp .le 9, 3) := by decide +kernel
theorem dX4_readTerm_45 : decode cX4_readTerm 45 = .ok (.aload_n 0, 1) := by decide +kernel
theorem dX4_readTerm_46 : decode cX4_readTerm 46 = .ok (.iconst 4, 1) := by decide +kernel
theorem dX4_readTerm_47 : decode cX4_readTerm 47 = .ok (.invokevirtual 111, 3) := by decide +kernel
theorem dX4_readTerm_50 : decode cX4_readTerm 50 = .ok (.ireturn, 1) := by decide +kernel
theorem dX4_readTerm_51 : decode cX4_readTerm 51 = .ok (.aload_n 0, 1) := by decide +kernel
theorem dX4_readTerm_52 : decode cX4_readTerm 52 = .ok (.getfield 28, 3) := by decide +kernel
theorem dX4_readTerm_55 : decode cX4_readTerm 55 = .ok (.getfield 108, 3) := by decide +kernel
theorem dX4_readTerm_58 : decode cX4_readTerm 58 = .ok (.iconst 2, 1) := by decide +kernel
theorem dX4_readTerm_59 : decode cX4_readTerm 59 = .ok (.if_icmp .ne 17, 3) := by decide +kernel
theorem dX4_readTerm_62 : decode cX4_readTerm 62 = .ok (.aload_n 0, 1) := by decide +kernel
theorem dX4_readTerm_63 : decode cX4_readTerm 63 = .ok (.aload_n 0, 1) := by decide +kernel
theorem dX4_readTerm_64 : decode cX4_readTerm 64 = .ok (.getfield 28, 3) := by decide +kernel
theorem dX4_readTerm_67 : decode cX4_readTerm 67 = .ok (.getfield 117, 3) := by decide +kernel
theorem dX4_readTerm_70 : decode cX4_readTerm 70 = .ok (.putfield 155, 3) := by decide +kernel
theorem dX4_readTerm_73 : decode cX4_readTerm 73 = .ok (.bipush 9, 2) := by decide +kernel
theorem dX4_readTerm_75 : decode cX4_readTerm 75 = .ok (.ireturn, 1) := by decide +kernel
theorem dX4_readTerm_76 : decode cX4_readTerm 76 = .ok (.aload_n 0, 1) := by decide +kernel
theorem dX4_readTerm_77 : decode cX4_readTerm 77 = .ok (.getfield 12, 3) := by decide +kernel
theorem dX4_readTerm_80 : decode cX4_readTerm 80 = .ok (.iconst 2, 1) := by decide +kernel
theorem dX4_readTerm_81 : decode cX4_readTerm 81 = .ok (.aload_n 0, 1) := by decide +kernel
theorem dX4_readTerm_82 : decode cX4_readTerm 82 = .ok (.getfield 28, 3) := by decide +kernel
theorem dX4_readTerm_85 : decode cX4_readTerm 85 = .ok (.getfield 117, 3) := by decide +kernel
theorem dX4_readTerm_88 : decode cX4_readTerm 88 = .ok (.iconst 1, 1) := by decide +kernel
theorem dX4_readTerm_89 : decode cX4_readTerm 89 = .ok (.invokestatic 135, 3) := by decide +kernel
theorem dX4_readTerm_92 : decode cX4_readTerm 92 = .ok (.invokevirtual 140, 3) := by decide +kernel
theorem dX4_readTerm_95 : decode cX4_readTerm 95 = .ok (.bipush 11, 2) := by decide +kernel
theorem dX4_readTerm_97 : decode cX4_readTerm 97 = .ok (.ireturn, 1) := by decide +kernel
theorem dX4_readBehindNumber_0 : decode cX4_readBehindNumber 0 = .ok (.aload_n 0, 1) := by decide +kernel
theorem dX4_readBehindNumber_1 : decode cX4_readBehindNumber 1 = .ok (.getfield 28, 3) := by decide +kernel
theorem dX4_readBehindNumber_4 : decode cX4_readBehindNumber 4 = .ok (.getfield 108, 3) := by decide +kernel
theorem dX4_readBehindNumber_7 : decode cX4_readBehindNumber 7 = .ok (.bipush 42, 2) := by decide +kernel
theorem dX4_readBehindNumber_9 : decode cX4_readBehindNumber 9 = .ok (.if_icmp .ne 6, 3) := by decide +kernel
theorem dX4_readBehindNumber_12 : decode cX4_readBehindNumber 12 = .ok (.bipush 10, 2) := by decide +kernel
theorem dX4_readBehindNumber_14 : decode cX4_readBehindNumber 14 = .ok (.ireturn, 1) := by decide +kernel
theorem dX4_readBehindNumber_15 : decode cX4_readBehindNumber 15 = .ok (.aload_n 0, 1) := by decide +kernel
theorem dX4_readBehindNumber_16 : decode cX4_readBehindNumber 16 = .ok (.getfield 12, 3) := by decide +kernel
theorem dX4_readBehindNumber_19 : decode cX4_readBehindNumber 19 = .ok (.iconst 2, 1) := by decide +kernel
theorem dX4_readBehindNumber_20 : decode cX4_readBehindNumber 20 = .ok (.iconst 5, 1) := by decide +kernel
theorem dX4_readBehindNumber_21 : decode cX4_readBehindNumber 21 = .ok (.aload_n 0, 1) := by decide +kernel
theorem dX4_readBehindNumber_22 : decode cX4_readBehindNumber 22 = .ok (.getfield 155, 3) := by decide +kernel
theorem dX4_readBehindNumber_25 : decode cX4_readBehindNumber 25 = .ok (.invokestatic 135, 3) := by decide +kernel
theorem dX4_readBehindNumber_28 : decode cX4_readBehindNumber 28 = .ok (.invokevirtual 140, 3) := by decide +kernel
theorem dX4_readBehindNumber_31 : decode cX4_readBehindNumber 31 = .ok (.aload_n 0, 1) := by decide +kernel
theorem dX4_readBehindNumber_32 : decode cX4_readBehindNumber 32 = .ok (.invokevirtual 105, 3) := by decide +kernel
theorem dX4_readBehindNumber_35 : decode cX4_readBehindNumber 35 = .ok (.ireturn, 1) := by decide +kernel
theorem dX4_readFactor_0 : decode cX4_readFactor 0 = .ok (.aload_n 0, 1) := by decide +kernel
theorem dX4_readFactor_1 : decode cX4_readFactor 1 = .ok (.getfield 28, 3) := by decide +kernel
theorem dX4_readFactor_4 : decode cX4_readFactor 4 = .ok (.getfield 108, 3) := by decide +kernel
theorem dX4_readFactor_7 : decode cX4_readFactor 7 = .ok (.iconst 4, 1) := by decide +kernel
theorem dX4_readFactor_8 : decode cX4_readFactor 8 = .ok (.if_icmp .eq 8, 3) := by decide +kernel
theorem dX4_readFactor_11 : decode cX4_readFactor 11 = .ok (.aload_n 0, 1) := by decide +kernel
theorem dX4_readFactor_12 : decode cX4_readFactor 12 = .ok (.invokevirtual 129, 3) := by decide +kernel
theorem dX4_readFactor_15 : decode cX4_readFactor 15 = .ok (.ireturn, 1) := by decide +kernel
theorem dX4_readFactor_16 : decode cX4_readFactor 16 = .ok (.aload_n 0, 1) := by decide +kernel
theorem dX4_readFactor_17 : decode cX4_readFactor 17 = .ok (.getfield 12, 3) := by decide +kernel
theorem dX4_readFactor_20 : decode cX4_readFactor 20 = .ok (.iconst 2, 1) := by decide +kernel
theorem dX4_readFactor_21 : decode cX4_readFactor 21 = .ok (.aload_n 0, 1) := by decide +kernel
theorem dX4_readFactor_22 : decode cX4_readFactor 22 = .ok (.getfield 28, 3) := by decide +kernel
theorem dX4_readFactor_25 : decode cX4_readFactor 25 = .ok (.getfield 117, 3) := by decide +kernel
theorem dX4_readFactor_28 : decode cX4_readFactor 28 = .ok (.aload_n 0, 1) := by decide +kernel
theorem dX4_readFactor_29 : decode cX4_readFactor 29 = .ok (.getfield 155, 3) := by decide +kernel
theorem dX4_readFactor_32 : decode cX4_readFactor 32 = .ok (.invokestatic 135, 3) := by decide +kernel
theorem dX4_readFactor_35 : decode cX4_readFactor 35 = .ok (.invokevirtual 140, 3) := by decide +kernel
theorem dX4_readFactor_38 : decode cX4_readFactor 38 = .ok (.bipush 11, 2) := by decide +kernel
theorem dX4_readFactor_40 : decode cX4_readFactor 40 = .ok (.ireturn, 1) := by decide +kernel
theorem dX4_readBehindTerm_0 : decode cX4_readBehindTerm 0 = .ok (.aload_n 0, 1) := by decide +kernel
theorem dX4_readBehindTerm_1 : decode cX4_readBehindTerm 1 = .ok (.getfield 28, 3) := by decide +kernel
theorem dX4_readBehindTerm_4 : decode cX4_readBehindTerm 4 = .ok (.getfield 108, 3) := by decide +kernel
theorem dX4_readBehindTerm_7 : decode cX4_readBehindTerm 7 = .ok (.bipush 43, 2) := by decide +kernel
theorem dX4_readBehindTerm_9 : decode cX4_readBehindTerm 9 = .ok (.if_icmp .ne 8, 3) := by decide +kernel
theorem dX4_readBehindTerm_12 : decode cX4_readBehindTerm 12 = .ok (.bipush 8, 2) := by decide +kernel
theorem dX4_readBehindTerm_14 : decode cX4_readBehindTerm 14 = .ok (.goto 7, 3) := by decide +kernel
theorem dX4_readBehindTerm_17 : decode cX4_readBehindTerm 17 = .ok (.aload_n 0, 1) := by decide +kernel
theorem dX4_readBehindTerm_18 : decode cX4_readBehindTerm 18 = .ok (.invokevirtual 81, 3) := by decide +kernel
theorem dX4_readBehindTerm_21 : decode cX4_readBehindTerm 21 = .ok (.ireturn, 1) := by decide +kernel
theorem dX4_noName_0 : decode cX4_noName 0 = .ok (.aload_n 0, 1) := by decide +kernel
theorem dX4_noName_1 : decode cX4_noName 1 = .ok (.aload_n 0, 1) := by decide +kernel
theorem dX4_noName_2 : decode cX4_noName 2 = .ok (.getfield 28, 3) := by decide +kernel
theorem dX4_noName_5 : decode cX4_noName 5 = .ok (.getfield 108, 3) := by decide +kernel
theorem dX4_noName_8 : decode cX4_noName 8 = .ok (.iconst 3, 1) := by decide +kernel
theorem dX4_noName_9 : decode cX4_noName 9 = .ok (.if_icmp .ne 7, 3) := by decide +kernel
theorem dX4_noName_12 : decode cX4_noName 12 = .ok (.iconst 2, 1) := by decide +kernel
theorem dX4_noName_13 : decode cX4_noName 13 = .ok (.goto 4, 3) := by decide +kernel
theorem dX4_noName_16 : decode cX4_noName 16 = .ok (.iconst 1, 1) := by decide +kernel
theorem dX4_noName_17 : decode cX4_noName 17 = .ok (.invokevirtual 111, 3) := by decide +kernel
theorem dX4_noName_20 : decode cX4_noName 20 = .ok (.ireturn, 1) := by decide +kernel
theorem dX4_faulty_0 : decode cX4_faulty 0 = .ok (.aload_n 0, 1) := by decide +kernel
theorem dX4_faulty_1 : decode cX4_faulty 1 = .ok (.iload_n 1, 1) := by decide +kernel
theorem dX4_faulty_2 : decode cX4_faulty 2 = .ok (.putfield 48, 3) := by decide +kernel
theorem dX4_faulty_5 : decode cX4_faulty 5 = .ok (.bipush 12, 2) := by decide +kernel
theorem dX4_faulty_7 : decode cX4_faulty 7 = .ok (.ireturn, 1) := by decide +kernel
theorem dX5_init_0 : decode cX5_init 0 = .ok (.aload_n 0, 1) := by decide +kernel
theorem dX5_init_1 : decode cX5_init 1 = .ok (.invokespecial 3, 3) := by decide +kernel
theorem dX5_init_4 : decode cX5_init 4 = .ok (.aload_n 0, 1) := by decide +kernel
theorem dX5_init_5 : decode cX5_init 5 = .ok (.bipush (-2), 2) := by decide +kernel
theorem dX5_init_7 : decode cX5_init 7 = .ok (.putfield 9, 3) := by decide +kernel
theorem dX5_init_10 : decode cX5_init 10 = .ok (.aload_n 0, 1) := by decide +kernel
theorem dX5_init_11 : decode cX5_init 11 = .ok (.iload_n 1, 1) := by decide +kernel
theorem dX5_init_12 : decode cX5_init 12 = .ok (.putfield 15, 3) := by decide +kernel
theorem dX5_init_15 : decode cX5_init 15 = .ok (.return_, 1) := by decide +kernel
theorem dX6_init_0 : decode cX6_init 0 = .ok (.aload_n 0, 1) := by decide +kernel
theorem dX6_init_1 : decode cX6_init 1 = .ok (.invokespecial 3, 3) := by decide +kernel
theorem dX6_init_4 : decode cX6_init 4 = .ok (.aload_n 0, 1) := by decide +kernel
theorem dX6_init_5 : decode cX6_init 5 = .ok (.bipush 13, 2) := by decide +kernel
theorem dX6_init_7 : decode cX6_init 7 = .ok (.anewarray 9, 3) := by decide +kernel
theorem dX6_init_10 : decode cX6_init 10 = .ok (.putfield 11, 3) := by decide +kernel
theorem dX6_init_13 : decode cX6_init 13 = .ok (.return_, 1) := by decide +kernel
theorem dX6_settle_0 : decode cX6_settle 0 = .ok (.iconst 0, 1) := by decide +kernel
theorem dX6_settle_1 : decode cX6_settle 1 = .ok (.istore 4, 2) := by decide +kernel
theorem dX6_settle_3 : decode cX6_settle 3 = .ok (.iload 4, 2) := by decide +kernel
theorem dX6_settle_5 : decode cX6_settle 5 = .ok (.aload_n 0, 1) := by decide +kernel
theorem dX6_settle_6 : decode cX6_settle 6 = .ok (.getfield 11, 3) := by decide +kernel
theorem dX6_settle_9 : decode cX6_settle 9 = .ok (.arraylength, 1) := by decide +kernel
theorem dX6_settle_10 : decode cX6_settle 10 = .ok (.if_icmp .ge 17, 3) := by decide +kernel
theorem dX6_settle_13 : decode cX6_settle 13 = .ok (.aload_n 0, 1) := by decide +kernel
theorem dX6_settle_14 : decode cX6_settle 14 = .ok (.getfield 11, 3) := by decide +kernel
theorem dX6_settle_17 : decode cX6_settle 17 = .ok (.iload 4, 2) := by decide +kernel
theorem dX6_settle_19 : decode cX6_settle 19 = .ok (.aconst_null, 1) := by decide +kernel
theorem dX6_settle_20 : decode cX6_settle 20 = .ok (.aastore, 1) := by decide +kernel
theorem dX6_settle_21 : decode cX6_settle 21 = .ok (.iinc 4 1, 3) := by decide +kernel
theorem dX6_settle_24 : decode cX6_settle 24 = .ok (.goto (-21), 3) := by decide +kernel
theorem dX6_settle_27 : decode cX6_settle 27 = .ok (.iconst 0, 1) := by decide +kernel
theorem dX6_settle_28 : decode cX6_settle 28 = .ok (.istore 4, 2) := by decide +kernel
theorem dX6_settle_30 : decode cX6_settle 30 = .ok (.iload 4, 2) := by decide +kernel
theorem dX6_settle_32 : decode cX6_settle 32 = .ok (.aload_n 1, 1) := by decide +kernel
theorem dX6_settle_33 : decode cX6_settle 33 = .ok (.invokevirtual 17, 3) := by decide +kernel
theorem dX6_settle_36 : decode cX6_settle 36 = .ok (.if_icmp .ge 44, 3) := by decide +kernel
theorem dX6_settle_39 : decode cX6_settle 39 = .ok (.aload_n 1, 1) := by decide +kernel
theorem dX6_settle_40 : decode cX6_settle 40 = .ok (.iload 4, 2) := by decide +kernel
theorem dX6_settle_42 : decode cX6_settle 42 = .ok (.invokevirtual 23, 3) := by decide +kernel
theorem dX6_settle_45 : decode cX6_settle 45 = .ok (.checkcast 9, 3) := by decide +kernel
theorem dX6_settle_48 : decode cX6_settle 48 = .ok (.astore 5, 2) := by decide +kernel
theorem dX6_settle_50 : decode cX6_settle 50 = .ok (.aload 5, 2) := by decide +kernel
theorem dX6_settle_52 : decode cX6_settle 52 = .ok (.getfield 27, 3) := by decide +kernel
theorem dX6_settle_55 : decode cX6_settle 55 = .ok (.iload_n 2, 1) := by decide +kernel
theorem dX6_settle_56 : decode cX6_settle 56 = .ok (.if_icmp .ne 18, 3) := by decide +kernel
theorem dX6_settle_59 : decode cX6_settle 59 = .ok (.aload 5, 2) := by decide +kernel
theorem dX6_settle_61 : decode cX6_settle 61 = .ok (.getfield 31, 3) := by decide +kernel
theorem dX6_settle_64 : decode cX6_settle 64 = .ok (.iload_n 3, 1) := by decide +kernel
theorem dX6_settle_65 : decode cX6_settle 65 = .ok (.if_icmp .gt 9, 3) := by decide +kernel
theorem dX6_settle_68 : decode cX6_settle 68 = .ok (.aload_n 0, 1) := by decide +kernel
theorem dX6_settle_69 : decode cX6_settle 69 = .ok (.aload 5, 2) := by decide +kernel
theorem dX6_settle_71 : decode cX6_settle 71 = .ok (.invokevirtual 34, 3) := by decide +kernel
theorem dX6_settle_74 : decode cX6_settle 74 = .ok (.iinc 4 1, 3) := by decide +kernel
theorem dX6_settle_77 : decode cX6_settle 77 = .ok (.goto (-47), 3) := by decide +kernel
theorem dX6_settle_80 : decode cX6_settle 80 = .ok (.return_, 1) := by decide +kernel
theorem dX6_clauseAt_0 : decode cX6_clauseAt 0 = .ok (.iload_n 1, 1) := by decide +kernel
theorem dX6_clauseAt_1 : decode cX6_clauseAt 1 = .ok (.iconst 1, 1) := by decide +kernel
theorem dX6_clauseAt_2 : decode cX6_clauseAt 2 = .ok (.if_icmp .lt 12, 3) := by decide +kernel
theorem dX6_clauseAt_5 : decode cX6_clauseAt 5 = .ok (.iload_n 1, 1) := by decide +kernel
theorem dX6_clauseAt_6 : decode cX6_clauseAt 6 = .ok (.aload_n 0, 1) := by decide +kernel
theorem dX6_clauseAt_7 : decode cX6_clauseAt 7 = .ok (.getfield 11, 3) := by decide +kernel
theorem dX6_clauseAt_10 : decode cX6_clauseAt 10 = .ok (.arraylength, 1) := by decide +kernel
theorem dX6_clauseAt_11 : decode cX6_clauseAt 11 = .ok (.if_icmp .lt 5, 3) := by decide +kernel
theorem dX6_clauseAt_14 : decode cX6_clauseAt 14 = .ok (.aconst_null, 1) := by decide +kernel
theorem dX6_clauseAt_15 : decode cX6_clauseAt 15 = .ok (.areturn, 1) := by decide +kernel
theorem dX6_clauseAt_16 : decode cX6_clauseAt 16 = .ok (.aload_n 0, 1) := by decide +kernel
theorem dX6_clauseAt_17 : decode cX6_clauseAt 17 = .ok (.getfield 11, 3) := by decide +kernel
theorem dX6_clauseAt_20 : decode cX6_clauseAt 20 = .ok (.iload_n 1, 1) := by decide +kernel
theorem dX6_clauseAt_21 : decode cX6_clauseAt 21 = .ok (.aaload, 1) := by decide +kernel
theorem dX6_clauseAt_22 : decode cX6_clauseAt 22 = .ok (.astore_n 2, 1) := by decide +kernel
theorem dX6_clauseAt_23 : decode cX6_clauseAt 23 = .ok (.aload_n 2, 1) := by decide +kernel
theorem dX6_clauseAt_24 : decode cX6_clauseAt 24 = .ok (.ifnull 15, 3) := by decide +kernel
theorem dX6_clauseAt_27 : decode cX6_clauseAt 27 = .ok (.aload_n 2, 1) := by decide +kernel
theorem dX6_clauseAt_28 : decode cX6_clauseAt 28 = .ok (.getfield 38, 3) := by decide +kernel
theorem dX6_clauseAt_31 : decode cX6_clauseAt 31 = .ok (.iconst 5, 1) := by decide +kernel
theorem dX6_clauseAt_32 : decode cX6_clauseAt 32 = .ok (.if_icmp .ne 7, 3) := by decide +kernel
theorem dX6_clauseAt_35 : decode cX6_clauseAt 35 = .ok (.aload_n 2, 1) := by decide +kernel
theorem dX6_clauseAt_36 : decode cX6_clauseAt 36 = .ok (.goto 4, 3) := by decide +kernel
theorem dX6_clauseAt_39 : decode cX6_clauseAt 39 = .ok (.aconst_null, 1) := by decide +kernel
theorem dX6_clauseAt_40 : decode cX6_clauseAt 40 = .ok (.areturn, 1) := by decide +kernel
theorem dX6_howMany_0 : decode cX6_howMany 0 = .ok (.iconst 0, 1) := by decide +kernel
theorem dX6_howMany_1 : decode cX6_howMany 1 = .ok (.istore_n 1, 1) := by decide +kernel
theorem dX6_howMany_2 : decode cX6_howMany 2 = .ok (.iconst 1, 1) := by decide +kernel
theorem dX6_howMany_3 : decode cX6_howMany 3 = .ok (.istore_n 2, 1) := by decide +kernel
theorem dX6_howMany_4 : decode cX6_howMany 4 = .ok (.iload_n 2, 1) := by decide +kernel
theorem dX6_howMany_5 : decode cX6_howMany 5 = .ok (.bipush 12, 2) := by decide +kernel
theorem dX6_howMany_7 : decode cX6_howMany 7 = .ok (.if_icmp .gt 20, 3) := by decide +kernel
theorem dX6_howMany_10 : decode cX6_howMany 10 = .ok (.aload_n 0, 1) := by decide +kernel
theorem dX6_howMany_11 : decode cX6_howMany 11 = .ok (.iload_n 2, 1) := by decide +kernel
theorem dX6_howMany_12 : decode cX6_howMany 12 = .ok (.invokevirtual 41, 3) := by decide +kernel
theorem dX6_howMany_15 : decode cX6_howMany 15 = .ok (.ifnull 6, 3) := by decide +kernel
theorem dX6_howMany_18 : decode cX6_howMany 18 = .ok (.iinc 1 1, 3) := by decide +kernel
theorem dX6_howMany_21 : decode cX6_howMany 21 = .ok (.iinc 2 1, 3) := by decide +kernel
theorem dX6_howMany_24 : decode cX6_howMany 24 = .ok (.goto (-20), 3) := by decide +kernel
theorem dX6_howMany_27 : decode cX6_howMany 27 = .ok (.iload_n 1, 1) := by decide +kernel
theorem dX6_howMany_28 : decode cX6_howMany 28 = .ok (.ireturn, 1) := by decide +kernel
theorem dX6_firstBar_0 : decode cX6_firstBar 0 = .ok (.iconst 1, 1) := by decide +kernel
theorem dX6_firstBar_1 : decode cX6_firstBar 1 = .ok (.istore_n 3, 1) := by decide +kernel
theorem dX6_firstBar_2 : decode cX6_firstBar 2 = .ok (.iload_n 3, 1) := by decide +kernel
theorem dX6_firstBar_3 : decode cX6_firstBar 3 = .ok (.bipush 12, 2) := by decide +kernel
theorem dX6_firstBar_5 : decode cX6_firstBar 5 = .ok (.if_icmp .gt 33, 3) := by decide +kernel
theorem dX6_firstBar_8 : decode cX6_firstBar 8 = .ok (.aload_n 0, 1) := by decide +kernel
theorem dX6_firstBar_9 : decode cX6_firstBar 9 = .ok (.iload_n 3, 1) := by decide +kernel
theorem dX6_firstBar_10 : decode cX6_firstBar 10 = .ok (.invokevirtual 41, 3) := by decide +kernel
theorem dX6_firstBar_13 : decode cX6_firstBar 13 = .ok (.astore 4, 2) := by decide +kernel
theorem dX6_firstBar_15 : decode cX6_firstBar 15 = .ok (.aload 4, 2) := by decide +kernel
theorem dX6_firstBar_17 : decode cX6_firstBar 17 = .ok (.ifnull 15, 3) := by decide +kernel
theorem dX6_firstBar_20 : decode cX6_firstBar 20 = .ok (.aload 4, 2) := by decide +kernel
theorem dX6_firstBar_22 : decode cX6_firstBar 22 = .ok (.aload_n 1, 1) := by decide +kernel
theorem dX6_firstBar_23 : decode cX6_firstBar 23 = .ok (.iload_n 2, 1) := by decide +kernel
theorem dX6_firstBar_24 : decode cX6_firstBar 24 = .ok (.invokevirtual 45, 3) := by decide +kernel
theorem dX6_firstBar_27 : decode cX6_firstBar 27 = .ok (.ifCond .ne 5, 3) := by decide +kernel
theorem dX6_firstBar_30 : decode cX6_firstBar 30 = .ok (.iload_n 3, 1) := by decide +kernel
theorem dX6_firstBar_31 : decode cX6_firstBar 31 = .ok (.ireturn, 1) := by decide +kernel
theorem dX6_firstBar_32 : decode cX6_firstBar 32 = .ok (.iinc 3 1, 3) := by decide +kernel
theorem dX6_firstBar_35 : decode cX6_firstBar 35 = .ok (.goto (-33), 3) := by decide +kernel
theorem dX6_firstBar_38 : decode cX6_firstBar 38 = .ok (.bipush (-2), 2) := by decide +kernel
theorem dX6_firstBar_40 : decode cX6_firstBar 40 = .ok (.ireturn, 1) := by decide +kernel
theorem dX6_admits_0 : decode cX6_admits 0 = .ok (.aload_n 1, 1) := by decide +kernel
theorem dX6_admits_1 : decode cX6_admits 1 = .ok (.getfield 49, 3) := by decide +kernel
theorem dX6_admits_4 : decode cX6_admits 4 = .ok (.iload_n 2, 1) := by decide +kernel
theorem dX6_admits_5 : decode cX6_admits 5 = .ok (.if_icmp .gt 11, 3) := by decide +kernel
theorem dX6_admits_8 : decode cX6_admits 8 = .ok (.aload_n 1, 1) := by decide +kernel
theorem dX6_admits_9 : decode cX6_admits 9 = .ok (.getfield 54, 3) := by decide +kernel
theorem dX6_admits_12 : decode cX6_admits 12 = .ok (.iload_n 2, 1) := by decide +kernel
theorem dX6_admits_13 : decode cX6_admits 13 = .ok (.if_icmp .gt 5, 3) := by decide +kernel
theorem dX6_admits_16 : decode cX6_admits 16 = .ok (.iconst 0, 1) := by decide +kernel
theorem dX6_admits_17 : decode cX6_admits 17 = .ok (.ireturn, 1) := by decide +kernel
theorem dX6_admits_18 : decode cX6_admits 18 = .ok (.aload_n 0, 1) := by decide +kernel
theorem dX6_admits_19 : decode cX6_admits 19 = .ok (.invokevirtual 57, 3) := by decide +kernel
theorem dX6_admits_22 : decode cX6_admits 22 = .ok (.ifCond .le 18, 3) := by decide +kernel
theorem dX6_admits_25 : decode cX6_admits 25 = .ok (.aload_n 0, 1) := by decide +kernel
theorem dX6_admits_26 : decode cX6_admits 26 = .ok (.aload_n 1, 1) := by decide +kernel
theorem dX6_admits_27 : decode cX6_admits 27 = .ok (.iload_n 2, 1) := by decide +kernel
theorem dX6_admits_28 : decode cX6_admits 28 = .ok (.invokevirtual 60, 3) := by decide +kernel
theorem dX6_admits_31 : decode cX6_admits 31 = .ok (.bipush (-2), 2) := by decide +kernel
theorem dX6_admits_33 : decode cX6_admits 33 = .ok (.if_icmp .ne 7, 3) := by decide +kernel
theorem dX6_admits_36 : decode cX6_admits 36 = .ok (.iconst 1, 1) := by decide +kernel
theorem dX6_admits_37 : decode cX6_admits 37 = .ok (.goto 4, 3) := by decide +kernel
theorem dX6_admits_40 : decode cX6_admits 40 = .ok (.iconst 0, 1) := by decide +kernel
theorem dX6_admits_41 : decode cX6_admits 41 = .ok (.ireturn, 1) := by decide +kernel
theorem dX6_rank_0 : decode cX6_rank 0 = .ok (.aload_n 0, 1) := by decide +kernel
theorem dX6_rank_1 : decode cX6_rank 1 = .ok (.getfield 11, 3) := by decide +kernel
theorem dX6_rank_4 : decode cX6_rank 4 = .ok (.iconst 0, 1) := by decide +kernel
theorem dX6_rank_5 : decode cX6_rank 5 = .ok (.aaload, 1) := by decide +kernel
theorem dX6_rank_6 : decode cX6_rank 6 = .ok (.astore_n 3, 1) := by decide +kernel
theorem dX6_rank_7 : decode cX6_rank 7 = .ok (.aload_n 3, 1) := by decide +kernel
theorem dX6_rank_8 : decode cX6_rank 8 = .ok (.ifnonnull 7, 3) := by decide +kernel
theorem dX6_rank_11 : decode cX6_rank 11 = .ok (.iconst 0, 1) := by decide +kernel
theorem dX6_rank_12 : decode cX6_rank 12 = .ok (.goto 9, 3) := by decide +kernel
theorem dX6_rank_15 : decode cX6_rank 15 = .ok (.aload_n 3, 1) := by decide +kernel
theorem dX6_rank_16 : decode cX6_rank 16 = .ok (.aload_n 1, 1) := by decide +kernel
theorem dX6_rank_17 : decode cX6_rank 17 = .ok (.iload_n 2, 1) := by decide +kernel
theorem dX6_rank_18 : decode cX6_rank 18 = .ok (.invokevirtual 64, 3) := by decide +kernel
theorem dX6_rank_21 : decode cX6_rank 21 = .ok (.ireturn, 1) := by decide +kernel
theorem dX6_consider_0 : decode cX6_consider 0 = .ok (.aload_n 1, 1) := by decide +kernel
theorem dX6_consider_1 : decode cX6_consider 1 = .ok (.getfield 67, 3) := by decide +kernel
theorem dX6_consider_4 : decode cX6_consider 4 = .ok (.istore_n 2, 1) := by decide +kernel
theorem dX6_consider_5 : decode cX6_consider 5 = .ok (.iload_n 2, 1) := by decide +kernel
theorem dX6_consider_6 : decode cX6_consider 6 = .ok (.ifCond .lt 12, 3) := by decide +kernel
theorem dX6_consider_9 : decode cX6_consider 9 = .ok (.iload_n 2, 1) := by decide +kernel
theorem dX6_consider_10 : decode cX6_consider 10 = .ok (.aload_n 0, 1) := by decide +kernel
theorem dX6_consider_11 : decode cX6_consider 11 = .ok (.getfield 11, 3) := by decide +kernel
theorem dX6_consider_14 : decode cX6_consider 14 = .ok (.arraylength, 1) := by decide +kernel
theorem dX6_consider_15 : decode cX6_consider 15 = .ok (.if_icmp .lt 4, 3) := by decide +kernel
theorem dX6_consider_18 : decode cX6_consider 18 = .ok (.return_, 1) := by decide +kernel
theorem dX6_consider_19 : decode cX6_consider 19 = .ok (.aload_n 0, 1) := by decide +kernel
theorem dX6_consider_20 : decode cX6_consider 20 = .ok (.getfield 11, 3) := by decide +kernel
theorem dX6_consider_23 : decode cX6_consider 23 = .ok (.iload_n 2, 1) := by decide +kernel
theorem dX6_consider_24 : decode cX6_consider 24 = .ok (.aaload, 1) := by decide +kernel
theorem dX6_consider_25 : decode cX6_consider 25 = .ok (.astore_n 3, 1) := by decide +kernel
theorem dX6_consider_26 : decode cX6_consider 26 = .ok (.aload_n 3, 1) := by decide +kernel
theorem dX6_consider_27 : decode cX6_consider 27 = .ok (.ifnull 14, 3) := by decide +kernel
theorem dX6_consider_30 : decode cX6_consider 30 = .ok (.aload_n 1, 1) := by decide +kernel
theorem dX6_consider_31 : decode cX6_consider 31 = .ok (.getfield 31, 3) := by decide +kernel
theorem dX6_consider_34 : decode cX6_consider 34 = .ok (.aload_n 3, 1) := by decide +kernel
theorem dX6_consider_35 : decode cX6_consider 35 = .ok (.getfield 31, 3) := by decide +kernel
theorem dX6_consider_38 : decode cX6_consider 38 = .ok (.if_icmp .lt 10, 3) := by decide +kernel
theorem dX6_consider_41 : decode cX6_consider 41 = .ok (.aload_n 0, 1) := by decide +kernel
theorem dX6_consider_42 : decode cX6_consider 42 = .ok (.getfield 11, 3) := by decide +kernel
theorem dX6_consider_45 : decode cX6_consider 45 = .ok (.iload_n 2, 1) := by decide +kernel
theorem dX6_consider_46 : decode cX6_consider 46 = .ok (.aload_n 1, 1) := by decide +kernel
theorem dX6_consider_47 : decode cX6_consider 47 = .ok (.aastore, 1) := by decide +kernel
theorem dX6_consider_48 : decode cX6_consider 48 = .ok (.return_, 1) := by decide +kernel
theorem dX7_init_0 : decode cX7_init 0 = .ok (.aload_n 0, 1) := by decide +kernel
theorem dX7_init_1 : decode cX7_init 1 = .ok (.invokespecial 3, 3) := by decide +kernel
theorem dX7_init_4 : decode cX7_init 4 = .ok (.aload_n 0, 1) := by decide +kernel
theorem dX7_init_5 : decode cX7_init 5 = .ok (.ldc 9, 2) := by decide +kernel
theorem dX7_init_7 : decode cX7_init 7 = .ok (.putfield 10, 3) := by decide +kernel
theorem dX7_init_10 : decode cX7_init 10 = .ok (.aload_n 0, 1) := by decide +kernel
theorem dX7_init_11 : decode cX7_init 11 = .ok (.iload_n 1, 1) := by decide +kernel
theorem dX7_init_12 : decode cX7_init 12 = .ok (.putfield 16, 3) := by decide +kernel
theorem dX7_init_15 : decode cX7_init 15 = .ok (.aload_n 0, 1) := by decide +kernel
theorem dX7_init_16 : decode cX7_init 16 = .ok (.iload_n 2, 1) := by decide +kernel
theorem dX7_init_17 : decode cX7_init 17 = .ok (.putfield 19, 3) := by decide +kernel
theorem dX7_init_20 : decode cX7_init 20 = .ok (.aload_n 0, 1) := by decide +kernel
theorem dX7_init_21 : decode cX7_init 21 = .ok (.iload_n 3, 1) := by decide +kernel
theorem dX7_init_22 : decode cX7_init 22 = .ok (.putfield 22, 3) := by decide +kernel
theorem dX7_init_25 : decode cX7_init 25 = .ok (.return_, 1) := by decide +kernel
theorem dX8_init_0 : decode cX8_init 0 = .ok (.aload_n 0, 1) := by decide +kernel
theorem dX8_init_1 : decode cX8_init 1 = .ok (.invokespecial 3, 3) := by decide +kernel
theorem dX8_init_4 : decode cX8_init 4 = .ok (.aload_n 0, 1) := by decide +kernel
theorem dX8_init_5 : decode cX8_init 5 = .ok (.sipush 300, 3) := by decide +kernel
theorem dX8_init_8 : decode cX8_init 8 = .ok (.newarray .int, 2) := by decide +kernel
theorem dX8_init_10 : decode cX8_init 10 = .ok (.putfield 9, 3) := by decide +kernel
theorem dX8_init_13 : decode cX8_init 13 = .ok (.return_, 1) := by decide +kernel
theorem dX8_append_0 : decode cX8_append 0 = .ok (.bipush 24, 2) := by decide +kernel
theorem dX8_append_2 : decode cX8_append 2 = .ok (.istore_n 2, 1) := by decide +kernel
theorem dX8_append_3 : decode cX8_append 3 = .ok (.iload_n 2, 1) := by decide +kernel
theorem dX8_append_4 : decode cX8_append 4 = .ok (.ifCond .lt 47, 3) := by decide +kernel
theorem dX8_append_7 : decode cX8_append 7 = .ok (.aload_n 0, 1) := by decide +kernel
theorem dX8_append_8 : decode cX8_append 8 = .ok (.getfield 15, 3) := by decide +kernel
theorem dX8_append_11 : decode cX8_append 11 = .ok (.aload_n 0, 1) := by decide +kernel
theorem dX8_append_12 : decode cX8_append 12 = .ok (.getfield 9, 3) := by decide +kernel
theorem dX8_append_15 : decode cX8_append 15 = .ok (.arraylength, 1) := by decide +kernel
theorem dX8_append_16 : decode cX8_append 16 = .ok (.if_icmp .ge 35, 3) := by decide +kernel
theorem dX8_append_19 : decode cX8_append 19 = .ok (.aload_n 0, 1) := by decide +kernel
theorem dX8_append_20 : decode cX8_append 20 = .ok (.getfield 9, 3) := by decide +kernel
theorem dX8_append_23 : decode cX8_append 23 = .ok (.aload_n 0, 1) := by decide +kernel
theorem dX8_append_24 : decode cX8_append 24 = .ok (.getfield 15, 3) := by decide +kernel
theorem dX8_append_27 : decode cX8_append 27 = .ok (.iload_n 1, 1) := by decide +kernel
theorem dX8_append_28 : decode cX8_append 28 = .ok (.iload_n 2, 1) := by decide +kernel
theorem dX8_append_29 : decode cX8_append 29 = .ok (.iushr, 1) := by decide +kernel
theorem dX8_append_30 : decode cX8_append 30 = .ok (.sipush 255, 3) := by decide +kernel
theorem dX8_append_33 : decode cX8_append 33 = .ok (.iand, 1) := by decide +kernel
theorem dX8_append_34 : decode cX8_append 34 = .ok (.iastore, 1) := by decide +kernel
theorem dX8_append_35 : decode cX8_append 35 = .ok (.aload_n 0, 1) := by decide +kernel
theorem dX8_append_36 : decode cX8_append 36 = .ok (.dup, 1) := by decide +kernel
theorem dX8_append_37 : decode cX8_append 37 = .ok (.getfield 15, 3) := by decide +kernel
theorem dX8_append_40 : decode cX8_append 40 = .ok (.iconst 1, 1) := by decide +kernel
theorem dX8_append_41 : decode cX8_append 41 = .ok (.iadd, 1) := by decide +kernel
theorem dX8_append_42 : decode cX8_append 42 = .ok (.putfield 15, 3) := by decide +kernel
theorem dX8_append_45 : decode cX8_append 45 = .ok (.iinc 2 (-8), 3) := by decide +kernel
theorem dX8_append_48 : decode cX8_append 48 = .ok (.goto (-45), 3) := by decide +kernel
theorem dX8_append_51 : decode cX8_append 51 = .ok (.return_, 1) := by decide +kernel
theorem dX8_rewind_0 : decode cX8_rewind 0 = .ok (.aload_n 0, 1) := by decide +kernel
theorem dX8_rewind_1 : decode cX8_rewind 1 = .ok (.iload_n 1, 1) := by decide +kernel
theorem dX8_rewind_2 : decode cX8_rewind 2 = .ok (.putfield 19, 3) := by decide +kernel
theorem dX8_rewind_5 : decode cX8_rewind 5 = .ok (.aload_n 0, 1) := by decide +kernel
theorem dX8_rewind_6 : decode cX8_rewind 6 = .ok (.iconst 0, 1) := by decide +kernel
theorem dX8_rewind_7 : decode cX8_rewind 7 = .ok (.putfield 22, 3) := by decide +kernel
theorem dX8_rewind_10 : decode cX8_rewind 10 = .ok (.return_, 1) := by decide +kernel
theorem dX8_advance_0 : decode cX8_advance 0 = .ok (.aload_n 0, 1) := by decide +kernel
theorem dX8_advance_1 : decode cX8_advance 1 = .ok (.getfield 22, 3) := by decide +kernel
theorem dX8_advance_4 : decode cX8_advance 4 = .ok (.aload_n 0, 1) := by decide +kernel
theorem dX8_advance_5 : decode cX8_advance 5 = .ok (.getfield 19, 3) := by decide +kernel
theorem dX8_advance_8 : decode cX8_advance 8 = .ok (.if_icmp .ge 29, 3) := by decide +kernel
theorem dX8_advance_11 : decode cX8_advance 11 = .ok (.aload_n 0, 1) := by decide +kernel
theorem dX8_advance_12 : decode cX8_advance 12 = .ok (.aload_n 0, 1) := by decide +kernel
theorem dX8_advance_13 : decode cX8_advance 13 = .ok (.getfield 22, 3) := by decide +kernel
theorem dX8_advance_16 : decode cX8_advance 16 = .ok (.invokevirtual 25, 3) := by decide +kernel
theorem dX8_advance_19 : decode cX8_advance 19 = .ok (.bipush 32, 2) := by decide +kernel
theorem dX8_advance_21 : decode cX8_advance 21 = .ok (.if_icmp .ne 16, 3) := by decide +kernel
theorem dX8_advance_24 : decode cX8_advance 24 = .ok (.aload_n 0, 1) := by decide +kernel
theorem dX8_advance_25 : decode cX8_advance 25 = .ok (.dup, 1) := by decide +kernel
theorem dX8_advance_26 : decode cX8_advance 26 = .ok (.getfield 22, 3) := by decide +kernel
theorem dX8_advance_29 : decode cX8_advance 29 = .ok (.iconst 1, 1) := by decide +kernel
theorem dX8_advance_30 : decode cX8_advance 30 = .ok (.iadd, 1) := by decide +kernel
theorem dX8_advance_31 : decode cX8_advance 31 = .ok (.putfield 22, 3) := by decide +kernel
theorem dX8_advance_34 : decode cX8_advance 34 = .ok (.goto (-34), 3) := by decide +kernel
theorem dX8_advance_37 : decode cX8_advance 37 = .ok (.aload_n 0, 1) := by decide +kernel
theorem dX8_advance_38 : decode cX8_advance 38 = .ok (.aload_n 0, 1) := by decide +kernel
theorem dX8_advance_39 : decode cX8_advance 39 = .ok (.getfield 22, 3) := by decide +kernel
theorem dX8_advance_42 : decode cX8_advance 42 = .ok (.putfield 29, 3) := by decide +kernel
theorem dX8_advance_45 : decode cX8_advance 45 = .ok (.aload_n 0, 1) := by decide +kernel
theorem dX8_advance_46 : decode cX8_advance 46 = .ok (.iconst 0, 1) := by decide +kernel
theorem dX8_advance_47 : decode cX8_advance 47 = .ok (.putfield 32, 3) := by decide +kernel
theorem dX8_advance_50 : decode cX8_advance 50 = .ok (.aload_n 0, 1) := by decide +kernel
theorem dX8_advance_51 : decode cX8_advance 51 = .ok (.getfield 22, 3) := by decide +kernel
theorem dX8_advance_54 : decode cX8_advance 54 = .ok (.aload_n 0, 1) := by decide +kernel
theorem dX8_advance_55 : decode cX8_advance 55 = .ok (.getfield 19, 3) := by decide +kernel
theorem dX8_advance_58 : decode cX8_advance 58 = .ok (.if_icmp .lt 11, 3) := by decide +kernel
theorem dX8_advance_61 : decode cX8_advance 61 = .ok (.aload_n 0, 1) := by decide +kernel
theorem dX8_advance_62 : decode cX8_advance 62 = .ok (.iconst 0, 1) := by decide +kernel
theorem dX8_advance_63 : decode cX8_advance 63 = .ok (.putfield 35, 3) := by decide +kernel
theorem dX8_advance_66 : decode cX8_advance 66 = .ok (.goto 85, 3) := by decide +kernel
theorem dX8_advance_69 : decode cX8_advance 69 = .ok (.aload_n 0, 1) := by decide +kernel
theorem dX8_advance_70 : decode cX8_advance 70 = .ok (.aload_n 0, 1) := by decide +kernel
theorem dX8_advance_71 : decode cX8_advance 71 = .ok (.getfield 22, 3) := by decide +kernel
theorem dX8_advance_74 : decode cX8_advance 74 = .ok (.invokevirtual 25, 3) := by decide +kernel
theorem dX8_advance_77 : decode cX8_advance 77 = .ok (.invokestatic 38, 3) := by decide +kernel
theorem dX8_advance_80 : decode cX8_advance 80 = .ok (.ifCond .eq 10, 3) := by decide +kernel
theorem dX8_advance_83 : decode cX8_advance 83 = .ok (.aload_n 0, 1) := by decide +kernel
theorem dX8_advance_84 : decode cX8_advance 84 = .ok (.invokevirtual 42, 3) := by decide +kernel
theorem dX8_advance_87 : decode cX8_advance 87 = .ok (.goto 64, 3) := by decide +kernel
theorem dX8_advance_90 : decode cX8_advance 90 = .ok (.aload_n 0, 1) := by decide +kernel
theorem dX8_advance_91 : decode cX8_advance 91 = .ok (.aload_n 0, 1) := by decide +kernel
theorem dX8_advance_92 : decode cX8_advance 92 = .ok (.getfield 22, 3) := by decide +kernel
theorem dX8_advance_95 : decode cX8_advance 95 = .ok (.invokevirtual 25, 3) := by decide +kernel
theorem dX8_advance_98 : decode cX8_advance 98 = .ok (.invokestatic 45, 3) := by decide +kernel
theorem dX8_advance_101 : decode cX8_advance 101 = .ok (.ifCond .eq 10, 3) := by decide +kernel
theorem dX8_advance_104 : decode cX8_advance 104 = .ok (.aload_n 0, 1) := by decide +kernel
theorem dX8_advance_105 : decode cX8_advance 105 = .ok (.invokevirtual 48, 3) := by decide +kernel
theorem dX8_advance_108 : decode cX8_advance 108 = .ok (.goto 43, 3) := by decide +kernel
theorem dX8_advance_111 : decode cX8_advance 111 = .ok (.aload_n 0, 1) := by decide +kernel
theorem dX8_advance_112 : decode cX8_advance 112 = .ok (.aload_n 0, 1) := by decide +kernel
theorem dX8_advance_113 : decode cX8_advance 113 = .ok (.aload_n 0, 1) := by decide +kernel
theorem dX8_advance_114 : decode cX8_advance 114 = .ok (.getfield 22, 3) := by decide +kernel
theorem dX8_advance_117 : decode cX8_advance 117 = .ok (.invokevirtual 25, 3) := by decide +kernel
theorem dX8_advance_120 : decode cX8_advance 120 = .ok (.invokestatic 51, 3) := by decide +kernel
theorem dX8_advance_123 : decode cX8_advance 123 = .ok (.ifCond .eq 14, 3) := by decide +kernel
theorem dX8_advance_126 : decode cX8_advance 126 = .ok (.aload_n 0, 1) := by decide +kernel
theorem dX8_advance_127 : decode cX8_advance 127 = .ok (.aload_n 0, 1) := by decide +kernel
theorem dX8_advance_128 : decode cX8_advance 128 = .ok (.getfield 22, 3) := by decide +kernel
theorem dX8_advance_131 : decode cX8_advance 131 = .ok (.invokevirtual 25, 3) := by decide +kernel
theorem dX8_advance_134 : decode cX8_advance 134 = .ok (.goto 4, 3) := by decide +kernel
theorem dX8_advance_137 : decode cX8_advance 137 = .ok (.iconst 1, 1) := by decide +kernel
theorem dX8_advance_138 : decode cX8_advance 138 = .ok (.putfield 35, 3) := by decide +kernel
theorem dX8_advance_141 : decode cX8_advance 141 = .ok (.aload_n 0, 1) := by decide +kernel
theorem dX8_advance_142 : decode cX8_advance 142 = .ok (.dup, 1) := by decide +kernel
theorem dX8_advance_143 : decode cX8_advance 143 = .ok (.getfield 22, 3) := by decide +kernel
theorem dX8_advance_146 : decode cX8_advance 146 = .ok (.iconst 1, 1) := by decide +kernel
theorem dX8_advance_147 : decode cX8_advance 147 = .ok (.iadd, 1) := by decide +kernel
theorem dX8_advance_148 : decode cX8_advance 148 = .ok (.putfield 22, 3) := by decide +kernel
theorem dX8_advance_151 : decode cX8_advance 151 = .ok (.return_, 1) := by decide +kernel
theorem dX8_takeNumber_0 : decode cX8_takeNumber 0 = .ok (.aload_n 0, 1) := by decide +kernel
theorem dX8_takeNumber_1 : decode cX8_takeNumber 1 = .ok (.getfield 22, 3) := by decide +kernel
theorem dX8_takeNumber_4 : decode cX8_takeNumber 4 = .ok (.aload_n 0, 1) := by decide +kernel
theorem dX8_takeNumber_5 : decode cX8_takeNumber 5 = .ok (.getfield 19, 3) := by decide +kernel
theorem dX8_takeNumber_8 : decode cX8_takeNumber 8 = .ok (.if_icmp .ge 53, 3) := by decide +kernel
theorem dX8_takeNumber_11 : decode cX8_takeNumber 11 = .ok (.aload_n 0, 1) := by decide +kernel
theorem dX8_takeNumber_12 : decode cX8_takeNumber 12 = .ok (.aload_n 0, 1) := by decide +kernel
theorem dX8_takeNumber_13 : decode cX8_takeNumber 13 = .ok (.getfield 22, 3) := by decide +kernel
theorem dX8_takeNumber_16 : decode cX8_takeNumber 16 = .ok (.invokevirtual 25, 3) := by decide +kernel
theorem dX8_takeNumber_19 : decode cX8_takeNumber 19 = .ok (.invokestatic 38, 3) := by decide +kernel
theorem dX8_takeNumber_22 : decode cX8_takeNumber 22 = .ok (.ifCond .eq 39, 3) := by decide +kernel
theorem dX8_takeNumber_25 : decode cX8_takeNumber 25 = .ok (.aload_n 0, 1) := by decide +kernel
theorem dX8_takeNumber_26 : decode cX8_takeNumber 26 = .ok (.aload_n 0, 1) := by decide +kernel
theorem dX8_takeNumber_27 : decode cX8_takeNumber 27 = .ok (.getfield 32, 3) := by decide +kernel
theorem dX8_takeNumber_30 : decode cX8_takeNumber 30 = .ok (.bipush 10, 2) := by decide +kernel
theorem dX8_takeNumber_32 : decode cX8_takeNumber 32 = .ok (.imul, 1) := by decide +kernel
theorem dX8_takeNumber_33 : decode cX8_takeNumber 33 = .ok (.aload_n 0, 1) := by decide +kernel
theorem dX8_takeNumber_34 : decode cX8_takeNumber 34 = .ok (.aload_n 0, 1) := by decide +kernel
theorem dX8_takeNumber_35 : decode cX8_takeNumber 35 = .ok (.getfield 22, 3) := by decide +kernel
theorem dX8_takeNumber_38 : decode cX8_takeNumber 38 = .ok (.invokevirtual 25, 3) := by decide +kernel
theorem dX8_takeNumber_41 : decode cX8_takeNumber 41 = .ok (.iadd, 1) := by decide +kernel
theorem dX8_takeNumber_42 : decode cX8_takeNumber 42 = .ok (.bipush 48, 2) := by decide +kernel
theorem dX8_takeNumber_44 : decode cX8_takeNumber 44 = .ok (.isub, 1) := by decide +kernel
theorem dX8_takeNumber_45 : decode cX8_takeNumber 45 = .ok (.putfield 32, 3) := by decide +kernel
theorem dX8_takeNumber_48 : decode cX8_takeNumber 48 = .ok (.aload_n 0, 1) := by decide +kernel
theorem dX8_takeNumber_49 : decode cX8_takeNumber 49 = .ok (.dup, 1) := by decide +kernel
theorem dX8_takeNumber_50 : decode cX8_takeNumber 50 = .ok (.getfield 22, 3) := by decide +kernel
theorem dX8_takeNumber_53 : decode cX8_takeNumber 53 = .ok (.iconst 1, 1) := by decide +kernel
theorem dX8_takeNumber_54 : decode cX8_takeNumber 54 = .ok (.iadd, 1) := by decide +kernel
theorem dX8_takeNumber_55 : decode cX8_takeNumber 55 = .ok (.putfield 22, 3) := by decide +kernel
theorem dX8_takeNumber_58 : decode cX8_takeNumber 58 = .ok (.goto (-58), 3) := by decide +kernel
theorem dX8_takeNumber_61 : decode cX8_takeNumber 61 = .ok (.aload_n 0, 1) := by decide +kernel
theorem dX8_takeNumber_62 : decode cX8_takeNumber 62 = .ok (.aload_n 0, 1) := by decide +kernel
theorem dX8_takeNumber_63 : decode cX8_takeNumber 63 = .ok (.getfield 22, 3) := by decide +kernel
theorem dX8_takeNumber_66 : decode cX8_takeNumber 66 = .ok (.aload_n 0, 1) := by decide +kernel
theorem dX8_takeNumber_67 : decode cX8_takeNumber 67 = .ok (.getfield 29, 3) := by decide +kernel
theorem dX8_takeNumber_70 : decode cX8_takeNumber 70 = .ok (.isub, 1) := by decide +kernel
theorem dX8_takeNumber_71 : decode cX8_takeNumber 71 = .ok (.iconst 4, 1) := by decide +kernel
theorem dX8_takeNumber_72 : decode cX8_takeNumber 72 = .ok (.if_icmp .gt 7, 3) := by decide +kernel
theorem dX8_takeNumber_75 : decode cX8_takeNumber 75 = .ok (.iconst 2, 1) := by decide +kernel
theorem dX8_takeNumber_76 : decode cX8_takeNumber 76 = .ok (.goto 4, 3) := by decide +kernel
theorem dX8_takeNumber_79 : decode cX8_takeNumber 79 = .ok (.iconst 1, 1) := by decide +kernel
theorem dX8_takeNumber_80 : decode cX8_takeNumber 80 = .ok (.putfield 35, 3) := by decide +kernel
theorem dX8_takeNumber_83 : decode cX8_takeNumber 83 = .ok (.return_, 1) := by decide +kernel
theorem dX8_takeWord_0 : decode cX8_takeWord 0 = .ok (.aload_n 0, 1) := by decide +kernel
theorem dX8_takeWord_1 : decode cX8_takeWord 1 = .ok (.getfield 22, 3) := by decide +kernel
theorem dX8_takeWord_4 : decode cX8_takeWord 4 = .ok (.aload_n 0, 1) := by decide +kernel
theorem dX8_takeWord_5 : decode cX8_takeWord 5 = .ok (.getfield 19, 3) := by decide +kernel
theorem dX8_takeWord_8 : decode cX8_takeWord 8 = .ok (.if_icmp .ge 30, 3) := by decide +kernel
theorem dX8_takeWord_11 : decode cX8_takeWord 11 = .ok (.aload_n 0, 1) := by decide +kernel
theorem dX8_takeWord_12 : decode cX8_takeWord 12 = .ok (.aload_n 0, 1) := by decide +kernel
theorem dX8_takeWord_13 : decode cX8_takeWord 13 = .ok (.getfield 22, 3) := by decide +kernel
theorem dX8_takeWord_16 : decode cX8_takeWord 16 = .ok (.invokevirtual 25, 3) := by decide +kernel
theorem dX8_takeWord_19 : decode cX8_takeWord 19 = .ok (.invokestatic 45, 3) := by decide +kernel
theorem dX8_takeWord_22 : decode cX8_takeWord 22 = .ok (.ifCond .eq 16, 3) := by decide +kernel
theorem dX8_takeWord_25 : decode cX8_takeWord 25 = .ok (.aload_n 0, 1) := by decide +kernel
theorem dX8_takeWord_26 : decode cX8_takeWord 26 = .ok (.dup, 1) := by decide +kernel
theorem dX8_takeWord_27 : decode cX8_takeWord 27 = .ok (.getfield 22, 3) := by decide +kernel
theorem dX8_takeWord_30 : decode cX8_takeWord 30 = .ok (.iconst 1, 1) := by decide +kernel
theorem dX8_takeWord_31 : decode cX8_takeWord 31 = .ok (.iadd, 1) := by decide +kernel
theorem dX8_takeWord_32 : decode cX8_takeWord 32 = .ok (.putfield 22, 3) := by decide +kernel
theorem dX8_takeWord_35 : decode cX8_takeWord 35 = .ok (.goto (-35), 3) := by decide +kernel
theorem dX8_takeWord_38 : decode cX8_takeWord 38 = .ok (.aload_n 0, 1) := by decide +kernel
theorem dX8_takeWord_39 : decode cX8_takeWord 39 = .ok (.aload_n 0, 1) := by decide +kernel
theorem dX8_takeWord_40 : decode cX8_takeWord 40 = .ok (.getfield 22, 3) := by decide +kernel
theorem dX8_takeWord_43 : decode cX8_takeWord 43 = .ok (.aload_n 0, 1) := by decide +kernel
theorem dX8_takeWord_44 : decode cX8_takeWord 44 = .ok (.getfield 29, 3) := by decide +kernel
theorem dX8_takeWord_47 : decode cX8_takeWord 47 = .ok (.isub, 1) := by decide +kernel
theorem dX8_takeWord_48 : decode cX8_takeWord 48 = .ok (.bipush 8, 2) := by decide +kernel
theorem dX8_takeWord_50 : decode cX8_takeWord 50 = .ok (.if_icmp .gt 10, 3) := by decide +kernel
theorem dX8_takeWord_53 : decode cX8_takeWord 53 = .ok (.aload_n 0, 1) := by decide +kernel
theorem dX8_takeWord_54 : decode cX8_takeWord 54 = .ok (.invokevirtual 54, 3) := by decide +kernel
theorem dX8_takeWord_57 : decode cX8_takeWord 57 = .ok (.goto 4, 3) := by decide +kernel
theorem dX8_takeWord_60 : decode cX8_takeWord 60 = .ok (.iconst 1, 1) := by decide +kernel
theorem dX8_takeWord_61 : decode cX8_takeWord 61 = .ok (.putfield 35, 3) := by decide +kernel
theorem dX8_takeWord_64 : decode cX8_takeWord 64 = .ok (.aload_n 0, 1) := by decide +kernel
theorem dX8_takeWord_65 : decode cX8_takeWord 65 = .ok (.getfield 35, 3) := by decide +kernel
theorem dX8_takeWord_68 : decode cX8_takeWord 68 = .ok (.iconst 3, 1) := by decide +kernel
theorem dX8_takeWord_69 : decode cX8_takeWord 69 = .ok (.if_icmp .ne 28, 3) := by decide +kernel
theorem dX8_takeWord_72 : decode cX8_takeWord 72 = .ok (.aload_n 0, 1) := by decide +kernel
theorem dX8_takeWord_73 : decode cX8_takeWord 73 = .ok (.aload_n 0, 1) := by decide +kernel
theorem dX8_takeWord_74 : decode cX8_takeWord 74 = .ok (.invokevirtual 58, 3) := by decide +kernel
theorem dX8_takeWord_77 : decode cX8_takeWord 77 = .ok (.putfield 32, 3) := by decide +kernel
theorem dX8_takeWord_80 : decode cX8_takeWord 80 = .ok (.aload_n 0, 1) := by decide +kernel
theorem dX8_takeWord_81 : decode cX8_takeWord 81 = .ok (.aload_n 0, 1) := by decide +kernel
theorem dX8_takeWord_82 : decode cX8_takeWord 82 = .ok (.getfield 32, 3) := by decide +kernel
theorem dX8_takeWord_85 : decode cX8_takeWord 85 = .ok (.iconst (-1), 1) := by decide +kernel
theorem dX8_takeWord_86 : decode cX8_takeWord 86 = .ok (.if_icmp .ne 7, 3) := by decide +kernel
theorem dX8_takeWord_89 : decode cX8_takeWord 89 = .ok (.iconst 3, 1) := by decide +kernel
theorem dX8_takeWord_90 : decode cX8_takeWord 90 = .ok (.goto 4, 3) := by decide +kernel
theorem dX8_takeWord_93 : decode cX8_takeWord 93 = .ok (.iconst 4, 1) := by decide +kernel
theorem dX8_takeWord_94 : decode cX8_takeWord 94 = .ok (.putfield 35, 3) := by decide +kernel
theorem dX8_takeWord_97 : decode cX8_takeWord 97 = .ok (.return_, 1) := by decide +kernel
theorem dX8_keywordKind_0 : decode cX8_keywordKind 0 = .ok (.aload_n 0, 1) := by decide +kernel
theorem dX8_keywordKind_1 : decode cX8_keywordKind 1 = .ok (.ldc 61, 2) := by decide +kernel
theorem dX8_keywordKind_3 : decode cX8_keywordKind 3 = .ok (.invokevirtual 63, 3) := by decide +kernel
theorem dX8_keywordKind_6 : decode cX8_keywordKind 6 = .ok (.ifCond .eq 5, 3) := by decide +kernel
theorem dX8_keywordKind_9 : decode cX8_keywordKind 9 = .ok (.iconst 5, 1) := by decide +kernel
theorem dX8_keywordKind_10 : decode cX8_keywordKind 10 = .ok (.ireturn, 1) := by decide +kernel
theorem dX8_keywordKind_11 : decode cX8_keywordKind 11 = .ok (.aload_n 0, 1) := by decide +kernel
theorem dX8_keywordKind_12 : decode cX8_keywordKind 12 = .ok (.ldc 67, 2) := by decide +kernel
theorem dX8_keywordKind_14 : decode cX8_keywordKind 14 = .ok (.invokevirtual 63, 3) := by decide +kernel
