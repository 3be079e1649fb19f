theorem dX14_fault_6 : decode cX14_fault 6 = .ok (.getfield 280, 3) := by decide +kernel
theorem dX14_fault_9 : decode cX14_fault 9 = .ok (.ireturn, 1) := by decide +kernel
theorem dX14_where_0 : decode cX14_where 0 = .ok (.aload_n 0, 1) := by decide +kernel
theorem dX14_where_1 : decode cX14_where 1 = .ok (.iconst 0, 1) := by decide +kernel
theorem dX14_where_2 : decode cX14_where 2 = .ok (.putfield 112, 3) := by decide +kernel
theorem dX14_where_5 : decode cX14_where 5 = .ok (.aload_n 0, 1) := by decide +kernel
theorem dX14_where_6 : decode cX14_where 6 = .ok (.getfield 9, 3) := by decide +kernel
theorem dX14_where_9 : decode cX14_where 9 = .ok (.ireturn, 1) := by decide +kernel
theorem dX14_finds_0 : decode cX14_finds 0 = .ok (.aload_n 0, 1) := by decide +kernel
theorem dX14_finds_1 : decode cX14_finds 1 = .ok (.iconst (-1), 1) := by decide +kernel
theorem dX14_finds_2 : decode cX14_finds 2 = .ok (.putfield 295, 3) := by decide +kernel
theorem dX14_finds_5 : decode cX14_finds 5 = .ok (.iconst 0, 1) := by decide +kernel
theorem dX14_finds_6 : decode cX14_finds 6 = .ok (.istore 4, 2) := by decide +kernel
theorem dX14_finds_8 : decode cX14_finds 8 = .ok (.iload 4, 2) := by decide +kernel
theorem dX14_finds_10 : decode cX14_finds 10 = .ok (.aload_n 0, 1) := by decide +kernel
theorem dX14_finds_11 : decode cX14_finds 11 = .ok (.getfield 283, 3) := by decide +kernel
theorem dX14_finds_14 : decode cX14_finds 14 = .ok (.if_icmp .ge 144, 3) := by decide +kernel
theorem dX14_finds_17 : decode cX14_finds 17 = .ok (.aload_n 0, 1) := by decide +kernel
theorem dX14_finds_18 : decode cX14_finds 18 = .ok (.getfield 15, 3) := by decide +kernel
theorem dX14_finds_21 : decode cX14_finds 21 = .ok (.iload 4, 2) := by decide +kernel
theorem dX14_finds_23 : decode cX14_finds 23 = .ok (.aaload, 1) := by decide +kernel
theorem dX14_finds_24 : decode cX14_finds 24 = .ok (.astore 5, 2) := by decide +kernel
theorem dX14_finds_26 : decode cX14_finds 26 = .ok (.aload 5, 2) := by decide +kernel
theorem dX14_finds_28 : decode cX14_finds 28 = .ok (.getfield 289, 3) := by decide +kernel
theorem dX14_finds_31 : decode cX14_finds 31 = .ok (.iload_n 1, 1) := by decide +kernel
theorem dX14_finds_32 : decode cX14_finds 32 = .ok (.if_icmp .ne 120, 3) := by decide +kernel
theorem dX14_finds_35 : decode cX14_finds 35 = .ok (.aload 5, 2) := by decide +kernel
theorem dX14_finds_37 : decode cX14_finds 37 = .ok (.getfield 292, 3) := by decide +kernel
theorem dX14_finds_40 : decode cX14_finds 40 = .ok (.iload_n 3, 1) := by decide +kernel
theorem dX14_finds_41 : decode cX14_finds 41 = .ok (.if_icmp .gt 111, 3) := by decide +kernel
theorem dX14_finds_44 : decode cX14_finds 44 = .ok (.aload_n 0, 1) := by decide +kernel
theorem dX14_finds_45 : decode cX14_finds 45 = .ok (.getfield 295, 3) := by decide +kernel
theorem dX14_finds_48 : decode cX14_finds 48 = .ok (.iconst (-1), 1) := by decide +kernel
theorem dX14_finds_49 : decode cX14_finds 49 = .ok (.if_icmp .eq 26, 3) := by decide +kernel
theorem dX14_finds_52 : decode cX14_finds 52 = .ok (.aload 5, 2) := by decide +kernel
theorem dX14_finds_54 : decode cX14_finds 54 = .ok (.getfield 292, 3) := by decide +kernel
theorem dX14_finds_57 : decode cX14_finds 57 = .ok (.aload_n 0, 1) := by decide +kernel
theorem dX14_finds_58 : decode cX14_finds 58 = .ok (.getfield 15, 3) := by decide +kernel
theorem dX14_finds_61 : decode cX14_finds 61 = .ok (.aload_n 0, 1) := by decide +kernel
theorem dX14_finds_62 : decode cX14_finds 62 = .ok (.getfield 295, 3) := by decide +kernel
theorem dX14_finds_65 : decode cX14_finds 65 = .ok (.aaload, 1) := by decide +kernel
theorem dX14_finds_66 : decode cX14_finds 66 = .ok (.getfield 292, 3) := by decide +kernel
theorem dX14_finds_69 : decode cX14_finds 69 = .ok (.if_icmp .ge 6, 3) := by decide +kernel
theorem dX14_finds_72 : decode cX14_finds 72 = .ok (.goto 80, 3) := by decide +kernel
theorem dX14_finds_75 : decode cX14_finds 75 = .ok (.iconst 0, 1) := by decide +kernel
theorem dX14_finds_76 : decode cX14_finds 76 = .ok (.istore 6, 2) := by decide +kernel
theorem dX14_finds_78 : decode cX14_finds 78 = .ok (.iload 6, 2) := by decide +kernel
theorem dX14_finds_80 : decode cX14_finds 80 = .ok (.aload 5, 2) := by decide +kernel
theorem dX14_finds_82 : decode cX14_finds 82 = .ok (.getfield 208, 3) := by decide +kernel
theorem dX14_finds_85 : decode cX14_finds 85 = .ok (.if_icmp .ge 67, 3) := by decide +kernel
theorem dX14_finds_88 : decode cX14_finds 88 = .ok (.iload_n 2, 1) := by decide +kernel
theorem dX14_finds_89 : decode cX14_finds 89 = .ok (.ifCond .ne 18, 3) := by decide +kernel
theorem dX14_finds_92 : decode cX14_finds 92 = .ok (.aload 5, 2) := by decide +kernel
theorem dX14_finds_94 : decode cX14_finds 94 = .ok (.getfield 223, 3) := by decide +kernel
theorem dX14_finds_97 : decode cX14_finds 97 = .ok (.iload 6, 2) := by decide +kernel
theorem dX14_finds_99 : decode cX14_finds 99 = .ok (.iaload, 1) := by decide +kernel
theorem dX14_finds_100 : decode cX14_finds 100 = .ok (.iconst 2, 1) := by decide +kernel
theorem dX14_finds_101 : decode cX14_finds 101 = .ok (.if_icmp .eq 33, 3) := by decide +kernel
theorem dX14_finds_104 : decode cX14_finds 104 = .ok (.goto 42, 3) := by decide +kernel
theorem dX14_finds_107 : decode cX14_finds 107 = .ok (.aload 5, 2) := by decide +kernel
theorem dX14_finds_109 : decode cX14_finds 109 = .ok (.getfield 223, 3) := by decide +kernel
theorem dX14_finds_112 : decode cX14_finds 112 = .ok (.iload 6, 2) := by decide +kernel
theorem dX14_finds_114 : decode cX14_finds 114 = .ok (.iaload, 1) := by decide +kernel
theorem dX14_finds_115 : decode cX14_finds 115 = .ok (.iconst 2, 1) := by decide +kernel
theorem dX14_finds_116 : decode cX14_finds 116 = .ok (.if_icmp .eq 30, 3) := by decide +kernel
theorem dX14_finds_119 : decode cX14_finds 119 = .ok (.aload 5, 2) := by decide +kernel
theorem dX14_finds_121 : decode cX14_finds 121 = .ok (.getfield 226, 3) := by decide +kernel
theorem dX14_finds_124 : decode cX14_finds 124 = .ok (.iload 6, 2) := by decide +kernel
theorem dX14_finds_126 : decode cX14_finds 126 = .ok (.iaload, 1) := by decide +kernel
theorem dX14_finds_127 : decode cX14_finds 127 = .ok (.iload_n 2, 1) := by decide +kernel
theorem dX14_finds_128 : decode cX14_finds 128 = .ok (.if_icmp .eq 6, 3) := by decide +kernel
theorem dX14_finds_131 : decode cX14_finds 131 = .ok (.goto 15, 3) := by decide +kernel
theorem dX14_finds_134 : decode cX14_finds 134 = .ok (.aload_n 0, 1) := by decide +kernel
theorem dX14_finds_135 : decode cX14_finds 135 = .ok (.iload 4, 2) := by decide +kernel
theorem dX14_finds_137 : decode cX14_finds 137 = .ok (.putfield 295, 3) := by decide +kernel
theorem dX14_finds_140 : decode cX14_finds 140 = .ok (.aload_n 0, 1) := by decide +kernel
theorem dX14_finds_141 : decode cX14_finds 141 = .ok (.iload 6, 2) := by decide +kernel
theorem dX14_finds_143 : decode cX14_finds 143 = .ok (.putfield 298, 3) := by decide +kernel
theorem dX14_finds_146 : decode cX14_finds 146 = .ok (.iinc 6 1, 3) := by decide +kernel
theorem dX14_finds_149 : decode cX14_finds 149 = .ok (.goto (-71), 3) := by decide +kernel
theorem dX14_finds_152 : decode cX14_finds 152 = .ok (.iinc 4 1, 3) := by decide +kernel
theorem dX14_finds_155 : decode cX14_finds 155 = .ok (.goto (-147), 3) := by decide +kernel
theorem dX14_finds_158 : decode cX14_finds 158 = .ok (.aload_n 0, 1) := by decide +kernel
theorem dX14_finds_159 : decode cX14_finds 159 = .ok (.getfield 295, 3) := by decide +kernel
theorem dX14_finds_162 : decode cX14_finds 162 = .ok (.iconst (-1), 1) := by decide +kernel
theorem dX14_finds_163 : decode cX14_finds 163 = .ok (.if_icmp .eq 28, 3) := by decide +kernel
theorem dX14_finds_166 : decode cX14_finds 166 = .ok (.aload_n 0, 1) := by decide +kernel
theorem dX14_finds_167 : decode cX14_finds 167 = .ok (.getfield 15, 3) := by decide +kernel
theorem dX14_finds_170 : decode cX14_finds 170 = .ok (.aload_n 0, 1) := by decide +kernel
theorem dX14_finds_171 : decode cX14_finds 171 = .ok (.getfield 295, 3) := by decide +kernel
theorem dX14_finds_174 : decode cX14_finds 174 = .ok (.aaload, 1) := by decide +kernel
theorem dX14_finds_175 : decode cX14_finds 175 = .ok (.getfield 223, 3) := by decide +kernel
theorem dX14_finds_178 : decode cX14_finds 178 = .ok (.aload_n 0, 1) := by decide +kernel
theorem dX14_finds_179 : decode cX14_finds 179 = .ok (.getfield 298, 3) := by decide +kernel
theorem dX14_finds_182 : decode cX14_finds 182 = .ok (.iaload, 1) := by decide +kernel
theorem dX14_finds_183 : decode cX14_finds 183 = .ok (.iconst 1, 1) := by decide +kernel
theorem dX14_finds_184 : decode cX14_finds 184 = .ok (.if_icmp .eq 7, 3) := by decide +kernel
theorem dX14_finds_187 : decode cX14_finds 187 = .ok (.iconst 1, 1) := by decide +kernel
theorem dX14_finds_188 : decode cX14_finds 188 = .ok (.goto 4, 3) := by decide +kernel
theorem dX14_finds_191 : decode cX14_finds 191 = .ok (.iconst 0, 1) := by decide +kernel
theorem dX14_finds_192 : decode cX14_finds 192 = .ok (.ireturn, 1) := by decide +kernel
theorem dX14_clause_0 : decode cX14_clause 0 = .ok (.aload_n 0, 1) := by decide +kernel
theorem dX14_clause_1 : decode cX14_clause 1 = .ok (.iconst 0, 1) := by decide +kernel
theorem dX14_clause_2 : decode cX14_clause 2 = .ok (.putfield 112, 3) := by decide +kernel
theorem dX14_clause_5 : decode cX14_clause 5 = .ok (.aload_n 0, 1) := by decide +kernel
theorem dX14_clause_6 : decode cX14_clause 6 = .ok (.iload_n 1, 1) := by decide +kernel
theorem dX14_clause_7 : decode cX14_clause 7 = .ok (.invokevirtual 274, 3) := by decide +kernel
theorem dX14_clause_10 : decode cX14_clause 10 = .ok (.ifCond .eq 20, 3) := by decide +kernel
theorem dX14_clause_13 : decode cX14_clause 13 = .ok (.iload_n 2, 1) := by decide +kernel
theorem dX14_clause_14 : decode cX14_clause 14 = .ok (.iconst 1, 1) := by decide +kernel
theorem dX14_clause_15 : decode cX14_clause 15 = .ok (.bipush 12, 2) := by decide +kernel
theorem dX14_clause_17 : decode cX14_clause 17 = .ok (.invokestatic 231, 3) := by decide +kernel
theorem dX14_clause_20 : decode cX14_clause 20 = .ok (.ifCond .eq 10, 3) := by decide +kernel
theorem dX14_clause_23 : decode cX14_clause 23 = .ok (.iload_n 3, 1) := by decide +kernel
theorem dX14_clause_24 : decode cX14_clause 24 = .ok (.invokestatic 277, 3) := by decide +kernel
theorem dX14_clause_27 : decode cX14_clause 27 = .ok (.ifCond .ne 5, 3) := by decide +kernel
theorem dX14_clause_30 : decode cX14_clause 30 = .ok (.iconst (-1), 1) := by decide +kernel
theorem dX14_clause_31 : decode cX14_clause 31 = .ok (.ireturn, 1) := by decide +kernel
theorem dX14_clause_32 : decode cX14_clause 32 = .ok (.aload_n 0, 1) := by decide +kernel
theorem dX14_clause_33 : decode cX14_clause 33 = .ok (.iload_n 1, 1) := by decide +kernel
theorem dX14_clause_34 : decode cX14_clause 34 = .ok (.iload_n 2, 1) := by decide +kernel
theorem dX14_clause_35 : decode cX14_clause 35 = .ok (.iload_n 3, 1) := by decide +kernel
theorem dX14_clause_36 : decode cX14_clause 36 = .ok (.invokevirtual 301, 3) := by decide +kernel
theorem dX14_clause_39 : decode cX14_clause 39 = .ok (.ifCond .eq 10, 3) := by decide +kernel
theorem dX14_clause_42 : decode cX14_clause 42 = .ok (.aload_n 0, 1) := by decide +kernel
theorem dX14_clause_43 : decode cX14_clause 43 = .ok (.getfield 295, 3) := by decide +kernel
theorem dX14_clause_46 : decode cX14_clause 46 = .ok (.goto 5, 3) := by decide +kernel
theorem dX14_clause_49 : decode cX14_clause 49 = .ok (.bipush (-2), 2) := by decide +kernel
theorem dX14_clause_51 : decode cX14_clause 51 = .ok (.ireturn, 1) := by decide +kernel
theorem dX14_clausesOf_0 : decode cX14_clausesOf 0 = .ok (.iconst 0, 1) := by decide +kernel
theorem dX14_clausesOf_1 : decode cX14_clausesOf 1 = .ok (.istore_n 3, 1) := by decide +kernel
theorem dX14_clausesOf_2 : decode cX14_clausesOf 2 = .ok (.iconst 1, 1) := by decide +kernel
theorem dX14_clausesOf_3 : decode cX14_clausesOf 3 = .ok (.istore 4, 2) := by decide +kernel
theorem dX14_clausesOf_5 : decode cX14_clausesOf 5 = .ok (.iload 4, 2) := by decide +kernel
theorem dX14_clausesOf_7 : decode cX14_clausesOf 7 = .ok (.bipush 12, 2) := by decide +kernel
theorem dX14_clausesOf_9 : decode cX14_clausesOf 9 = .ok (.if_icmp .gt 28, 3) := by decide +kernel
theorem dX14_clausesOf_12 : decode cX14_clausesOf 12 = .ok (.iload_n 3, 1) := by decide +kernel
theorem dX14_clausesOf_13 : decode cX14_clausesOf 13 = .ok (.aload_n 0, 1) := by decide +kernel
theorem dX14_clausesOf_14 : decode cX14_clausesOf 14 = .ok (.iload_n 1, 1) := by decide +kernel
theorem dX14_clausesOf_15 : decode cX14_clausesOf 15 = .ok (.iload 4, 2) := by decide +kernel
theorem dX14_clausesOf_17 : decode cX14_clausesOf 17 = .ok (.iload_n 2, 1) := by decide +kernel
theorem dX14_clausesOf_18 : decode cX14_clausesOf 18 = .ok (.invokevirtual 301, 3) := by decide +kernel
theorem dX14_clausesOf_21 : decode cX14_clausesOf 21 = .ok (.ifCond .eq 7, 3) := by decide +kernel
theorem dX14_clausesOf_24 : decode cX14_clausesOf 24 = .ok (.iconst 1, 1) := by decide +kernel
theorem dX14_clausesOf_25 : decode cX14_clausesOf 25 = .ok (.goto 4, 3) := by decide +kernel
theorem dX14_clausesOf_28 : decode cX14_clausesOf 28 = .ok (.iconst 0, 1) := by decide +kernel
theorem dX14_clausesOf_29 : decode cX14_clausesOf 29 = .ok (.iadd, 1) := by decide +kernel
theorem dX14_clausesOf_30 : decode cX14_clausesOf 30 = .ok (.istore_n 3, 1) := by decide +kernel
theorem dX14_clausesOf_31 : decode cX14_clausesOf 31 = .ok (.iinc 4 1, 3) := by decide +kernel
theorem dX14_clausesOf_34 : decode cX14_clausesOf 34 = .ok (.goto (-29), 3) := by decide +kernel
theorem dX14_clausesOf_37 : decode cX14_clausesOf 37 = .ok (.iload_n 3, 1) := by decide +kernel
theorem dX14_clausesOf_38 : decode cX14_clausesOf 38 = .ok (.ireturn, 1) := by decide +kernel
theorem dX14_clauses_0 : decode cX14_clauses 0 = .ok (.aload_n 0, 1) := by decide +kernel
theorem dX14_clauses_1 : decode cX14_clauses 1 = .ok (.iconst 0, 1) := by decide +kernel
theorem dX14_clauses_2 : decode cX14_clauses 2 = .ok (.putfield 112, 3) := by decide +kernel
theorem dX14_clauses_5 : decode cX14_clauses 5 = .ok (.aload_n 0, 1) := by decide +kernel
theorem dX14_clauses_6 : decode cX14_clauses 6 = .ok (.iload_n 1, 1) := by decide +kernel
theorem dX14_clauses_7 : decode cX14_clauses 7 = .ok (.invokevirtual 274, 3) := by decide +kernel
theorem dX14_clauses_10 : decode cX14_clauses 10 = .ok (.ifCond .eq 19, 3) := by decide +kernel
theorem dX14_clauses_13 : decode cX14_clauses 13 = .ok (.iload_n 2, 1) := by decide +kernel
theorem dX14_clauses_14 : decode cX14_clauses 14 = .ok (.invokestatic 277, 3) := by decide +kernel
theorem dX14_clauses_17 : decode cX14_clauses 17 = .ok (.ifCond .eq 12, 3) := by decide +kernel
theorem dX14_clauses_20 : decode cX14_clauses 20 = .ok (.aload_n 0, 1) := by decide +kernel
theorem dX14_clauses_21 : decode cX14_clauses 21 = .ok (.iload_n 1, 1) := by decide +kernel
theorem dX14_clauses_22 : decode cX14_clauses 22 = .ok (.iload_n 2, 1) := by decide +kernel
theorem dX14_clauses_23 : decode cX14_clauses 23 = .ok (.invokevirtual 304, 3) := by decide +kernel
theorem dX14_clauses_26 : decode cX14_clauses 26 = .ok (.goto 4, 3) := by decide +kernel
theorem dX14_clauses_29 : decode cX14_clauses 29 = .ok (.iconst (-1), 1) := by decide +kernel
theorem dX14_clauses_30 : decode cX14_clauses 30 = .ok (.ireturn, 1) := by decide +kernel
theorem dX14_isPerson_0 : decode cX14_isPerson 0 = .ok (.iload_n 1, 1) := by decide +kernel
theorem dX14_isPerson_1 : decode cX14_isPerson 1 = .ok (.ifCond .lt 15, 3) := by decide +kernel
theorem dX14_isPerson_4 : decode cX14_isPerson 4 = .ok (.iload_n 1, 1) := by decide +kernel
theorem dX14_isPerson_5 : decode cX14_isPerson 5 = .ok (.aload_n 0, 1) := by decide +kernel
theorem dX14_isPerson_6 : decode cX14_isPerson 6 = .ok (.getfield 308, 3) := by decide +kernel
theorem dX14_isPerson_9 : decode cX14_isPerson 9 = .ok (.if_icmp .ge 7, 3) := by decide +kernel
theorem dX14_isPerson_12 : decode cX14_isPerson 12 = .ok (.iconst 1, 1) := by decide +kernel
theorem dX14_isPerson_13 : decode cX14_isPerson 13 = .ok (.goto 4, 3) := by decide +kernel
theorem dX14_isPerson_16 : decode cX14_isPerson 16 = .ok (.iconst 0, 1) := by decide +kernel
theorem dX14_isPerson_17 : decode cX14_isPerson 17 = .ok (.ireturn, 1) := by decide +kernel
theorem dX14_person_0 : decode cX14_person 0 = .ok (.aload_n 0, 1) := by decide +kernel
theorem dX14_person_1 : decode cX14_person 1 = .ok (.iconst 0, 1) := by decide +kernel
theorem dX14_person_2 : decode cX14_person 2 = .ok (.putfield 112, 3) := by decide +kernel
theorem dX14_person_5 : decode cX14_person 5 = .ok (.iload_n 1, 1) := by decide +kernel
theorem dX14_person_6 : decode cX14_person 6 = .ok (.ldc_w 311, 3) := by decide +kernel
theorem dX14_person_9 : decode cX14_person 9 = .ok (.aload_n 0, 1) := by decide +kernel
theorem dX14_person_10 : decode cX14_person 10 = .ok (.getfield 312, 3) := by decide +kernel
theorem dX14_person_13 : decode cX14_person 13 = .ok (.invokestatic 231, 3) := by decide +kernel
theorem dX14_person_16 : decode cX14_person 16 = .ok (.ifCond .eq 15, 3) := by decide +kernel
theorem dX14_person_19 : decode cX14_person 19 = .ok (.iload_n 2, 1) := by decide +kernel
theorem dX14_person_20 : decode cX14_person 20 = .ok (.iload_n 1, 1) := by decide +kernel
theorem dX14_person_21 : decode cX14_person 21 = .ok (.aload_n 0, 1) := by decide +kernel
theorem dX14_person_22 : decode cX14_person 22 = .ok (.getfield 312, 3) := by decide +kernel
theorem dX14_person_25 : decode cX14_person 25 = .ok (.invokestatic 231, 3) := by decide +kernel
theorem dX14_person_28 : decode cX14_person 28 = .ok (.ifCond .ne 9, 3) := by decide +kernel
theorem dX14_person_31 : decode cX14_person 31 = .ok (.aload_n 0, 1) := by decide +kernel
theorem dX14_person_32 : decode cX14_person 32 = .ok (.iconst 2, 1) := by decide +kernel
theorem dX14_person_33 : decode cX14_person 33 = .ok (.invokevirtual 121, 3) := by decide +kernel
theorem dX14_person_36 : decode cX14_person 36 = .ok (.ireturn, 1) := by decide +kernel
theorem dX14_person_37 : decode cX14_person 37 = .ok (.aload_n 0, 1) := by decide +kernel
theorem dX14_person_38 : decode cX14_person 38 = .ok (.getfield 308, 3) := by decide +kernel
theorem dX14_person_41 : decode cX14_person 41 = .ok (.bipush 40, 2) := by decide +kernel
theorem dX14_person_43 : decode cX14_person 43 = .ok (.if_icmp .ne 9, 3) := by decide +kernel
theorem dX14_person_46 : decode cX14_person 46 = .ok (.aload_n 0, 1) := by decide +kernel
theorem dX14_person_47 : decode cX14_person 47 = .ok (.iconst 3, 1) := by decide +kernel
theorem dX14_person_48 : decode cX14_person 48 = .ok (.invokevirtual 121, 3) := by decide +kernel
theorem dX14_person_51 : decode cX14_person 51 = .ok (.ireturn, 1) := by decide +kernel
theorem dX14_person_52 : decode cX14_person 52 = .ok (.aload_n 0, 1) := by decide +kernel
theorem dX14_person_53 : decode cX14_person 53 = .ok (.getfield 35, 3) := by decide +kernel
theorem dX14_person_56 : decode cX14_person 56 = .ok (.aload_n 0, 1) := by decide +kernel
theorem dX14_person_57 : decode cX14_person 57 = .ok (.getfield 308, 3) := by decide +kernel
theorem dX14_person_60 : decode cX14_person 60 = .ok (.iload_n 1, 1) := by decide +kernel
theorem dX14_person_61 : decode cX14_person 61 = .ok (.iastore, 1) := by decide +kernel
theorem dX14_person_62 : decode cX14_person 62 = .ok (.aload_n 0, 1) := by decide +kernel
theorem dX14_person_63 : decode cX14_person 63 = .ok (.getfield 39, 3) := by decide +kernel
theorem dX14_person_66 : decode cX14_person 66 = .ok (.aload_n 0, 1) := by decide +kernel
theorem dX14_person_67 : decode cX14_person 67 = .ok (.getfield 308, 3) := by decide +kernel
theorem dX14_person_70 : decode cX14_person 70 = .ok (.iload_n 2, 1) := by decide +kernel
theorem dX14_person_71 : decode cX14_person 71 = .ok (.iastore, 1) := by decide +kernel
theorem dX14_person_72 : decode cX14_person 72 = .ok (.aload_n 0, 1) := by decide +kernel
theorem dX14_person_73 : decode cX14_person 73 = .ok (.getfield 60, 3) := by decide +kernel
theorem dX14_person_76 : decode cX14_person 76 = .ok (.aload_n 0, 1) := by decide +kernel
theorem dX14_person_77 : decode cX14_person 77 = .ok (.getfield 308, 3) := by decide +kernel
theorem dX14_person_80 : decode cX14_person 80 = .ok (.iload_n 3, 1) := by decide +kernel
theorem dX14_person_81 : decode cX14_person 81 = .ok (.bastore, 1) := by decide +kernel
theorem dX14_person_82 : decode cX14_person 82 = .ok (.aload_n 0, 1) := by decide +kernel
theorem dX14_person_83 : decode cX14_person 83 = .ok (.getfield 42, 3) := by decide +kernel
theorem dX14_person_86 : decode cX14_person 86 = .ok (.aload_n 0, 1) := by decide +kernel
theorem dX14_person_87 : decode cX14_person 87 = .ok (.getfield 308, 3) := by decide +kernel
theorem dX14_person_90 : decode cX14_person 90 = .ok (.aload_n 0, 1) := by decide +kernel
theorem dX14_person_91 : decode cX14_person 91 = .ok (.getfield 312, 3) := by decide +kernel
theorem dX14_person_94 : decode cX14_person 94 = .ok (.iastore, 1) := by decide +kernel
theorem dX14_person_95 : decode cX14_person 95 = .ok (.aload_n 0, 1) := by decide +kernel
theorem dX14_person_96 : decode cX14_person 96 = .ok (.getfield 45, 3) := by decide +kernel
theorem dX14_person_99 : decode cX14_person 99 = .ok (.aload_n 0, 1) := by decide +kernel
theorem dX14_person_100 : decode cX14_person 100 = .ok (.getfield 308, 3) := by decide +kernel
theorem dX14_person_103 : decode cX14_person 103 = .ok (.iconst (-1), 1) := by decide +kernel
theorem dX14_person_104 : decode cX14_person 104 = .ok (.iastore, 1) := by decide +kernel
theorem dX14_person_105 : decode cX14_person 105 = .ok (.aload_n 0, 1) := by decide +kernel
theorem dX14_person_106 : decode cX14_person 106 = .ok (.getfield 54, 3) := by decide +kernel
theorem dX14_person_109 : decode cX14_person 109 = .ok (.aload_n 0, 1) := by decide +kernel
theorem dX14_person_110 : decode cX14_person 110 = .ok (.getfield 308, 3) := by decide +kernel
theorem dX14_person_113 : decode cX14_person 113 = .ok (.iconst (-1), 1) := by decide +kernel
theorem dX14_person_114 : decode cX14_person 114 = .ok (.iastore, 1) := by decide +kernel
theorem dX14_person_115 : decode cX14_person 115 = .ok (.aload_n 0, 1) := by decide +kernel
theorem dX14_person_116 : decode cX14_person 116 = .ok (.dup, 1) := by decide +kernel
theorem dX14_person_117 : decode cX14_person 117 = .ok (.getfield 308, 3) := by decide +kernel
theorem dX14_person_120 : decode cX14_person 120 = .ok (.iconst 1, 1) := by decide +kernel
theorem dX14_person_121 : decode cX14_person 121 = .ok (.iadd, 1) := by decide +kernel
theorem dX14_person_122 : decode cX14_person 122 = .ok (.putfield 308, 3) := by decide +kernel
theorem dX14_person_125 : decode cX14_person 125 = .ok (.aload_n 0, 1) := by decide +kernel
theorem dX14_person_126 : decode cX14_person 126 = .ok (.aload_n 0, 1) := by decide +kernel
theorem dX14_person_127 : decode cX14_person 127 = .ok (.getfield 308, 3) := by decide +kernel
theorem dX14_person_130 : decode cX14_person 130 = .ok (.iconst 1, 1) := by decide +kernel
theorem dX14_person_131 : decode cX14_person 131 = .ok (.isub, 1) := by decide +kernel
theorem dX14_person_132 : decode cX14_person 132 = .ok (.invokevirtual 125, 3) := by decide +kernel
theorem dX14_person_135 : decode cX14_person 135 = .ok (.ireturn, 1) := by decide +kernel
theorem dX14_means_0 : decode cX14_means 0 = .ok (.aload_n 0, 1) := by decide +kernel
theorem dX14_means_1 : decode cX14_means 1 = .ok (.iconst 0, 1) := by decide +kernel
theorem dX14_means_2 : decode cX14_means 2 = .ok (.putfield 112, 3) := by decide +kernel
theorem dX14_means_5 : decode cX14_means 5 = .ok (.aload_n 0, 1) := by decide +kernel
theorem dX14_means_6 : decode cX14_means 6 = .ok (.iload_n 1, 1) := by decide +kernel
theorem dX14_means_7 : decode cX14_means 7 = .ok (.invokevirtual 315, 3) := by decide +kernel
theorem dX14_means_10 : decode cX14_means 10 = .ok (.ifCond .ne 9, 3) := by decide +kernel
theorem dX14_means_13 : decode cX14_means 13 = .ok (.aload_n 0, 1) := by decide +kernel
theorem dX14_means_14 : decode cX14_means 14 = .ok (.iconst 1, 1) := by decide +kernel
theorem dX14_means_15 : decode cX14_means 15 = .ok (.invokevirtual 121, 3) := by decide +kernel
theorem dX14_means_18 : decode cX14_means 18 = .ok (.ireturn, 1) := by decide +kernel
theorem dX14_means_19 : decode cX14_means 19 = .ok (.iload_n 2, 1) := by decide +kernel
theorem dX14_means_20 : decode cX14_means 20 = .ok (.invokestatic 277, 3) := by decide +kernel
theorem dX14_means_23 : decode cX14_means 23 = .ok (.ifCond .eq 14, 3) := by decide +kernel
theorem dX14_means_26 : decode cX14_means 26 = .ok (.iload_n 3, 1) := by decide +kernel
theorem dX14_means_27 : decode cX14_means 27 = .ok (.iconst 0, 1) := by decide +kernel
theorem dX14_means_28 : decode cX14_means 28 = .ok (.sipush 9999, 3) := by decide +kernel
theorem dX14_means_31 : decode cX14_means 31 = .ok (.invokestatic 231, 3) := by decide +kernel
theorem dX14_means_34 : decode cX14_means 34 = .ok (.ifCond .ne 9, 3) := by decide +kernel
theorem dX14_means_37 : decode cX14_means 37 = .ok (.aload_n 0, 1) := by decide +kernel
theorem dX14_means_38 : decode cX14_means 38 = .ok (.iconst 2, 1) := by decide +kernel
theorem dX14_means_39 : decode cX14_means 39 = .ok (.invokevirtual 121, 3) := by decide +kernel
theorem dX14_means_42 : decode cX14_means 42 = .ok (.ireturn, 1) := by decide +kernel
theorem dX14_means_43 : decode cX14_means 43 = .ok (.aload_n 0, 1) := by decide +kernel
theorem dX14_means_44 : decode cX14_means 44 = .ok (.getfield 57, 3) := by decide +kernel
theorem dX14_means_47 : decode cX14_means 47 = .ok (.iload_n 1, 1) := by decide +kernel
theorem dX14_means_48 : decode cX14_means 48 = .ok (.iaload, 1) := by decide +kernel
theorem dX14_means_49 : decode cX14_means 49 = .ok (.bipush 6, 2) := by decide +kernel
theorem dX14_means_51 : decode cX14_means 51 = .ok (.if_icmp .ne 9, 3) := by decide +kernel
theorem dX14_means_54 : decode cX14_means 54 = .ok (.aload_n 0, 1) := by decide +kernel
theorem dX14_means_55 : decode cX14_means 55 = .ok (.iconst 3, 1) := by decide +kernel
theorem dX14_means_56 : decode cX14_means 56 = .ok (.invokevirtual 121, 3) := by decide +kernel
theorem dX14_means_59 : decode cX14_means 59 = .ok (.ireturn, 1) := by decide +kernel
theorem dX14_means_60 : decode cX14_means 60 = .ok (.aload_n 0, 1) := by decide +kernel
theorem dX14_means_61 : decode cX14_means 61 = .ok (.getfield 64, 3) := by decide +kernel
theorem dX14_means_64 : decode cX14_means 64 = .ok (.bipush 6, 2) := by decide +kernel
theorem dX14_means_66 : decode cX14_means 66 = .ok (.iload_n 1, 1) := by decide +kernel
theorem dX14_means_67 : decode cX14_means 67 = .ok (.imul, 1) := by decide +kernel
theorem dX14_means_68 : decode cX14_means 68 = .ok (.aload_n 0, 1) := by decide +kernel
theorem dX14_means_69 : decode cX14_means 69 = .ok (.getfield 57, 3) := by decide +kernel
theorem dX14_means_72 : decode cX14_means 72 = .ok (.iload_n 1, 1) := by decide +kernel
theorem dX14_means_73 : decode cX14_means 73 = .ok (.iaload, 1) := by decide +kernel
theorem dX14_means_74 : decode cX14_means 74 = .ok (.iadd, 1) := by decide +kernel
theorem dX14_means_75 : decode cX14_means 75 = .ok (.iload_n 2, 1) := by decide +kernel
theorem dX14_means_76 : decode cX14_means 76 = .ok (.iastore, 1) := by decide +kernel
theorem dX14_means_77 : decode cX14_means 77 = .ok (.aload_n 0, 1) := by decide +kernel
theorem dX14_means_78 : decode cX14_means 78 = .ok (.getfield 67, 3) := by decide +kernel
theorem dX14_means_81 : decode cX14_means 81 = .ok (.bipush 6, 2) := by decide +kernel
theorem dX14_means_83 : decode cX14_means 83 = .ok (.iload_n 1, 1) := by decide +kernel
theorem dX14_means_84 : decode cX14_means 84 = .ok (.imul, 1) := by decide +kernel
theorem dX14_means_85 : decode cX14_means 85 = .ok (.aload_n 0, 1) := by decide +kernel
theorem dX14_means_86 : decode cX14_means 86 = .ok (.getfield 57, 3) := by decide +kernel
theorem dX14_means_89 : decode cX14_means 89 = .ok (.iload_n 1, 1) := by decide +kernel
theorem dX14_means_90 : decode cX14_means 90 = .ok (.iaload, 1) := by decide +kernel
theorem dX14_means_91 : decode cX14_means 91 = .ok (.iadd, 1) := by decide +kernel
theorem dX14_means_92 : decode cX14_means 92 = .ok (.iload_n 3, 1) := by decide +kernel
theorem dX14_means_93 : decode cX14_means 93 = .ok (.iastore, 1) := by decide +kernel
theorem dX14_means_94 : decode cX14_means 94 = .ok (.aload_n 0, 1) := by decide +kernel
theorem dX14_means_95 : decode cX14_means 95 = .ok (.getfield 57, 3) := by decide +kernel
theorem dX14_means_98 : decode cX14_means 98 = .ok (.iload_n 1, 1) := by decide +kernel
theorem dX14_means_99 : decode cX14_means 99 = .ok (.dup2, 1) := by decide +kernel
theorem dX14_means_100 : decode cX14_means 100 = .ok (.iaload, 1) := by decide +kernel
theorem dX14_means_101 : decode cX14_means 101 = .ok (.iconst 1, 1) := by decide +kernel
theorem dX14_means_102 : decode cX14_means 102 = .ok (.iadd, 1) := by decide +kernel
theorem dX14_means_103 : decode cX14_means 103 = .ok (.iastore, 1) := by decide +kernel
theorem dX14_means_104 : decode cX14_means 104 = .ok (.aload_n 0, 1) := by decide +kernel
theorem dX14_means_105 : decode cX14_means 105 = .ok (.aload_n 0, 1) := by decide +kernel
theorem dX14_means_106 : decode cX14_means 106 = .ok (.getfield 57, 3) := by decide +kernel
theorem dX14_means_109 : decode cX14_means 109 = .ok (.iload_n 1, 1) := by decide +kernel
theorem dX14_means_110 : decode cX14_means 110 = .ok (.iaload, 1) := by decide +kernel
theorem dX14_means_111 : decode cX14_means 111 = .ok (.invokevirtual 125, 3) := by decide +kernel
theorem dX14_means_114 : decode cX14_means 114 = .ok (.ireturn, 1) := by decide +kernel
theorem dX14_factOf_0 : decode cX14_factOf 0 = .ok (.iload_n 3, 1) := by decide +kernel
theorem dX14_factOf_1 : decode cX14_factOf 1 = .ok (.tableswitch 187 0 3 #[31, 58, 85, 172], 31) := by decide +kernel
theorem dX14_factOf_32 : decode cX14_factOf 32 = .ok (.iload_n 2, 1) := by decide +kernel
theorem dX14_factOf_33 : decode cX14_factOf 33 = .ok (.aload_n 0, 1) := by decide +kernel
theorem dX14_factOf_34 : decode cX14_factOf 34 = .ok (.getfield 35, 3) := by decide +kernel
theorem dX14_factOf_37 : decode cX14_factOf 37 = .ok (.iload_n 1, 1) := by decide +kernel
theorem dX14_factOf_38 : decode cX14_factOf 38 = .ok (.iaload, 1) := by decide +kernel
theorem dX14_factOf_39 : decode cX14_factOf 39 = .ok (.if_icmp .ge 7, 3) := by decide +kernel
theorem dX14_factOf_42 : decode cX14_factOf 42 = .ok (.iconst 0, 1) := by decide +kernel
theorem dX14_factOf_43 : decode cX14_factOf 43 = .ok (.goto 15, 3) := by decide +kernel
theorem dX14_factOf_46 : decode cX14_factOf 46 = .ok (.iload_n 2, 1) := by decide +kernel
theorem dX14_factOf_47 : decode cX14_factOf 47 = .ok (.aload_n 0, 1) := by decide +kernel
theorem dX14_factOf_48 : decode cX14_factOf 48 = .ok (.getfield 35, 3) := by decide +kernel
theorem dX14_factOf_51 : decode cX14_factOf 51 = .ok (.iload_n 1, 1) := by decide +kernel
theorem dX14_factOf_52 : decode cX14_factOf 52 = .ok (.iaload, 1) := by decide +kernel
theorem dX14_factOf_53 : decode cX14_factOf 53 = .ok (.isub, 1) := by decide +kernel
theorem dX14_factOf_54 : decode cX14_factOf 54 = .ok (.sipush 365, 3) := by decide +kernel
theorem dX14_factOf_57 : decode cX14_factOf 57 = .ok (.idiv, 1) := by decide +kernel
theorem dX14_factOf_58 : decode cX14_factOf 58 = .ok (.ireturn, 1) := by decide +kernel
theorem dX14_factOf_59 : decode cX14_factOf 59 = .ok (.iload_n 2, 1) := by decide +kernel
theorem dX14_factOf_60 : decode cX14_factOf 60 = .ok (.aload_n 0, 1) := by decide +kernel
theorem dX14_factOf_61 : decode cX14_factOf 61 = .ok (.getfield 39, 3) := by decide +kernel
theorem dX14_factOf_64 : decode cX14_factOf 64 = .ok (.iload_n 1, 1) := by decide +kernel
theorem dX14_factOf_65 : decode cX14_factOf 65 = .ok (.iaload, 1) := by decide +kernel
theorem dX14_factOf_66 : decode cX14_factOf 66 = .ok (.if_icmp .ge 7, 3) := by decide +kernel
theorem dX14_factOf_69 : decode cX14_factOf 69 = .ok (.iconst 0, 1) := by decide +kernel
theorem dX14_factOf_70 : decode cX14_factOf 70 = .ok (.goto 15, 3) := by decide +kernel
theorem dX14_factOf_73 : decode cX14_factOf 73 = .ok (.iload_n 2, 1) := by decide +kernel
theorem dX14_factOf_74 : decode cX14_factOf 74 = .ok (.aload_n 0, 1) := by decide +kernel
theorem dX14_factOf_75 : decode cX14_factOf 75 = .ok (.getfield 39, 3) := by decide +kernel
theorem dX14_factOf_78 : decode cX14_factOf 78 = .ok (.iload_n 1, 1) := by decide +kernel
theorem dX14_factOf_79 : decode cX14_factOf 79 = .ok (.iaload, 1) := by decide +kernel
theorem dX14_factOf_80 : decode cX14_factOf 80 = .ok (.isub, 1) := by decide +kernel
theorem dX14_factOf_81 : decode cX14_factOf 81 = .ok (.sipush 365, 3) := by decide +kernel
theorem dX14_factOf_84 : decode cX14_factOf 84 = .ok (.idiv, 1) := by decide +kernel
theorem dX14_factOf_85 : decode cX14_factOf 85 = .ok (.ireturn, 1) := by decide +kernel
theorem dX14_factOf_86 : decode cX14_factOf 86 = .ok (.iconst (-1), 1) := by decide +kernel
theorem dX14_factOf_87 : decode cX14_factOf 87 = .ok (.istore 4, 2) := by decide +kernel
theorem dX14_factOf_89 : decode cX14_factOf 89 = .ok (.bipush 6, 2) := by decide +kernel
theorem dX14_factOf_91 : decode cX14_factOf 91 = .ok (.iload_n 1, 1) := by decide +kernel
theorem dX14_factOf_92 : decode cX14_factOf 92 = .ok (.imul, 1) := by decide +kernel
theorem dX14_factOf_93 : decode cX14_factOf 93 = .ok (.istore 5, 2) := by decide +kernel
theorem dX14_factOf_95 : decode cX14_factOf 95 = .ok (.iload 5, 2) := by decide +kernel
theorem dX14_factOf_97 : decode cX14_factOf 97 = .ok (.bipush 6, 2) := by decide +kernel
theorem dX14_factOf_99 : decode cX14_factOf 99 = .ok (.iload_n 1, 1) := by decide +kernel
theorem dX14_factOf_100 : decode cX14_factOf 100 = .ok (.imul, 1) := by decide +kernel
theorem dX14_factOf_101 : decode cX14_factOf 101 = .ok (.aload_n 0, 1) := by decide +kernel
theorem dX14_factOf_102 : decode cX14_factOf 102 = .ok (.getfield 57, 3) := by decide +kernel
theorem dX14_factOf_105 : decode cX14_factOf 105 = .ok (.iload_n 1, 1) := by decide +kernel
theorem dX14_factOf_106 : decode cX14_factOf 106 = .ok (.iaload, 1) := by decide +kernel
theorem dX14_factOf_107 : decode cX14_factOf 107 = .ok (.iadd, 1) := by decide +kernel
theorem dX14_factOf_108 : decode cX14_factOf 108 = .ok (.if_icmp .ge 47, 3) := by decide +kernel
theorem dX14_factOf_111 : decode cX14_factOf 111 = .ok (.aload_n 0, 1) := by decide +kernel
theorem dX14_factOf_112 : decode cX14_factOf 112 = .ok (.getfield 64, 3) := by decide +kernel
theorem dX14_factOf_115 : decode cX14_factOf 115 = .ok (.iload 5, 2) := by decide +kernel
theorem dX14_factOf_117 : decode cX14_factOf 117 = .ok (.iaload, 1) := by decide +kernel
theorem dX14_factOf_118 : decode cX14_factOf 118 = .ok (.iload_n 2, 1) := by decide +kernel
theorem dX14_factOf_119 : decode cX14_factOf 119 = .ok (.if_icmp .gt 30, 3) := by decide +kernel
theorem dX14_factOf_122 : decode cX14_factOf 122 = .ok (.iload 4, 2) := by decide +kernel
theorem dX14_factOf_124 : decode cX14_factOf 124 = .ok (.iconst (-1), 1) := by decide +kernel
theorem dX14_factOf_125 : decode cX14_factOf 125 = .ok (.if_icmp .eq 20, 3) := by decide +kernel
theorem dX14_factOf_128 : decode cX14_factOf 128 = .ok (.aload_n 0, 1) := by decide +kernel
theorem dX14_factOf_129 : decode cX14_factOf 129 = .ok (.getfield 64, 3) := by decide +kernel
theorem dX14_factOf_132 : decode cX14_factOf 132 = .ok (.iload 5, 2) := by decide +kernel
theorem dX14_factOf_134 : decode cX14_factOf 134 = .ok (.iaload, 1) := by decide +kernel
theorem dX14_factOf_135 : decode cX14_factOf 135 = .ok (.aload_n 0, 1) := by decide +kernel
theorem dX14_factOf_136 : decode cX14_factOf 136 = .ok (.getfield 64, 3) := by decide +kernel
theorem dX14_factOf_139 : decode cX14_factOf 139 = .ok (.iload 4, 2) := by decide +kernel
theorem dX14_factOf_141 : decode cX14_factOf 141 = .ok (.iaload, 1) := by decide +kernel
theorem dX14_factOf_142 : decode cX14_factOf 142 = .ok (.if_icmp .lt 7, 3) := by decide +kernel
theorem dX14_factOf_145 : decode cX14_factOf 145 = .ok (.iload 5, 2) := by decide +kernel
theorem dX14_factOf_147 : decode cX14_factOf 147 = .ok (.istore 4, 2) := by decide +kernel
theorem dX14_factOf_149 : decode cX14_factOf 149 = .ok (.iinc 5 1, 3) := by decide +kernel
theorem dX14_factOf_152 : decode cX14_factOf 152 = .ok (.goto (-57), 3) := by decide +kernel
theorem dX14_factOf_155 : decode cX14_factOf 155 = .ok (.iload 4, 2) := by decide +kernel
theorem dX14_factOf_157 : decode cX14_factOf 157 = .ok (.iconst (-1), 1) := by decide +kernel
theorem dX14_factOf_158 : decode cX14_factOf 158 = .ok (.if_icmp .ne 7, 3) := by decide +kernel
theorem dX14_factOf_161 : decode cX14_factOf 161 = .ok (.iconst 0, 1) := by decide +kernel
theorem dX14_factOf_162 : decode cX14_factOf 162 = .ok (.goto 10, 3) := by decide +kernel
theorem dX14_factOf_165 : decode cX14_factOf 165 = .ok (.aload_n 0, 1) := by decide +kernel
theorem dX14_factOf_166 : decode cX14_factOf 166 = .ok (.getfield 67, 3) := by decide +kernel
theorem dX14_factOf_169 : decode cX14_factOf 169 = .ok (.iload 4, 2) := by decide +kernel
theorem dX14_factOf_171 : decode cX14_factOf 171 = .ok (.iaload, 1) := by decide +kernel
theorem dX14_factOf_172 : decode cX14_factOf 172 = .ok (.ireturn, 1) := by decide +kernel
theorem dX14_factOf_173 : decode cX14_factOf 173 = .ok (.aload_n 0, 1) := by decide +kernel
theorem dX14_factOf_174 : decode cX14_factOf 174 = .ok (.getfield 60, 3) := by decide +kernel
theorem dX14_factOf_177 : decode cX14_factOf 177 = .ok (.iload_n 1, 1) := by decide +kernel
theorem dX14_factOf_178 : decode cX14_factOf 178 = .ok (.baload, 1) := by decide +kernel
theorem dX14_factOf_179 : decode cX14_factOf 179 = .ok (.ifCond .eq 7, 3) := by decide +kernel
theorem dX14_factOf_182 : decode cX14_factOf 182 = .ok (.iconst 1, 1) := by decide +kernel
theorem dX14_factOf_183 : decode cX14_factOf 183 = .ok (.goto 4, 3) := by decide +kernel
theorem dX14_factOf_186 : decode cX14_factOf 186 = .ok (.iconst 0, 1) := by decide +kernel
theorem dX14_factOf_187 : decode cX14_factOf 187 = .ok (.ireturn, 1) := by decide +kernel
theorem dX14_factOf_188 : decode cX14_factOf 188 = .ok (.iconst 0, 1) := by decide +kernel
theorem dX14_factOf_189 : decode cX14_factOf 189 = .ok (.iload_n 2, 1) := by decide +kernel
theorem dX14_factOf_190 : decode cX14_factOf 190 = .ok (.aload_n 0, 1) := by decide +kernel
theorem dX14_factOf_191 : decode cX14_factOf 191 = .ok (.getfield 42, 3) := by decide +kernel
theorem dX14_factOf_194 : decode cX14_factOf 194 = .ok (.iload_n 1, 1) := by decide +kernel
theorem dX14_factOf_195 : decode cX14_factOf 195 = .ok (.iaload, 1) := by decide +kernel
theorem dX14_factOf_196 : decode cX14_factOf 196 = .ok (.isub, 1) := by decide +kernel
theorem dX14_factOf_197 : decode cX14_factOf 197 = .ok (.invokestatic 318, 3) := by decide +kernel
theorem dX14_factOf_200 : decode cX14_factOf 200 = .ok (.ireturn, 1) := by decide +kernel
theorem dX14_fact_0 : decode cX14_fact 0 = .ok (.aload_n 0, 1) := by decide +kernel
theorem dX14_fact_1 : decode cX14_fact 1 = .ok (.iconst 0, 1) := by decide +kernel
theorem dX14_fact_2 : decode cX14_fact 2 = .ok (.putfield 112, 3) := by decide +kernel
theorem dX14_fact_5 : decode cX14_fact 5 = .ok (.aload_n 0, 1) := by decide +kernel
theorem dX14_fact_6 : decode cX14_fact 6 = .ok (.iload_n 1, 1) := by decide +kernel
theorem dX14_fact_7 : decode cX14_fact 7 = .ok (.invokevirtual 315, 3) := by decide +kernel
theorem dX14_fact_10 : decode cX14_fact 10 = .ok (.ifCond .eq 29, 3) := by decide +kernel
theorem dX14_fact_13 : decode cX14_fact 13 = .ok (.iload_n 2, 1) := by decide +kernel
theorem dX14_fact_14 : decode cX14_fact 14 = .ok (.invokestatic 277, 3) := by decide +kernel
theorem dX14_fact_17 : decode cX14_fact 17 = .ok (.ifCond .eq 22, 3) := by decide +kernel
theorem dX14_fact_20 : decode cX14_fact 20 = .ok (.iload_n 3, 1) := by decide +kernel
theorem dX14_fact_21 : decode cX14_fact 21 = .ok (.iconst 0, 1) := by decide +kernel
theorem dX14_fact_22 : decode cX14_fact 22 = .ok (.iconst 4, 1) := by decide +kernel
theorem dX14_fact_23 : decode cX14_fact 23 = .ok (.invokestatic 231, 3) := by decide +kernel
theorem dX14_fact_26 : decode cX14_fact 26 = .ok (.ifCond .eq 13, 3) := by decide +kernel
theorem dX14_fact_29 : decode cX14_fact 29 = .ok (.aload_n 0, 1) := by decide +kernel
theorem dX14_fact_30 : decode cX14_fact 30 = .ok (.iload_n 1, 1) := by decide +kernel
theorem dX14_fact_31 : decode cX14_fact 31 = .ok (.iload_n 2, 1) := by decide +kernel
theorem dX14_fact_32 : decode cX14_fact 32 = .ok (.iload_n 3, 1) := by decide +kernel
theorem dX14_fact_33 : decode cX14_fact 33 = .ok (.invokevirtual 323, 3) := by decide +kernel
theorem dX14_fact_36 : decode cX14_fact 36 = .ok (.goto 4, 3) := by decide +kernel
theorem dX14_fact_39 : decode cX14_fact 39 = .ok (.iconst (-1), 1) := by decide +kernel
theorem dX14_fact_40 : decode cX14_fact 40 = .ok (.ireturn, 1) := by decide +kernel
theorem dX14_holds_0 : decode cX14_holds 0 = .ok (.aload_n 0, 1) := by decide +kernel
theorem dX14_holds_1 : decode cX14_holds 1 = .ok (.getfield 15, 3) := by decide +kernel
theorem dX14_holds_4 : decode cX14_holds 4 = .ok (.aload_n 0, 1) := by decide +kernel
theorem dX14_holds_5 : decode cX14_holds 5 = .ok (.getfield 295, 3) := by decide +kernel
theorem dX14_holds_8 : decode cX14_holds 8 = .ok (.aaload, 1) := by decide +kernel
theorem dX14_holds_9 : decode cX14_holds 9 = .ok (.astore_n 3, 1) := by decide +kernel
theorem dX14_holds_10 : decode cX14_holds 10 = .ok (.iconst 0, 1) := by decide +kernel
theorem dX14_holds_11 : decode cX14_holds 11 = .ok (.istore 4, 2) := by decide +kernel
theorem dX14_holds_13 : decode cX14_holds 13 = .ok (.aload_n 3, 1) := by decide +kernel
theorem dX14_holds_14 : decode cX14_holds 14 = .ok (.getfield 235, 3) := by decide +kernel
theorem dX14_holds_17 : decode cX14_holds 17 = .ok (.aload_n 0, 1) := by decide +kernel
theorem dX14_holds_18 : decode cX14_holds 18 = .ok (.getfield 298, 3) := by decide +kernel
theorem dX14_holds_21 : decode cX14_holds 21 = .ok (.iaload, 1) := by decide +kernel
theorem dX14_holds_22 : decode cX14_holds 22 = .ok (.istore 5, 2) := by decide +kernel
theorem dX14_holds_24 : decode cX14_holds 24 = .ok (.iload 5, 2) := by decide +kernel
theorem dX14_holds_26 : decode cX14_holds 26 = .ok (.aload_n 3, 1) := by decide +kernel
theorem dX14_holds_27 : decode cX14_holds 27 = .ok (.getfield 242, 3) := by decide +kernel
theorem dX14_holds_30 : decode cX14_holds 30 = .ok (.aload_n 0, 1) := by decide +kernel
theorem dX14_holds_31 : decode cX14_holds 31 = .ok (.getfield 298, 3) := by decide +kernel
theorem dX14_holds_34 : decode cX14_holds 34 = .ok (.iaload, 1) := by decide +kernel
theorem dX14_holds_35 : decode cX14_holds 35 = .ok (.if_icmp .ge 262, 3) := by decide +kernel
theorem dX14_holds_38 : decode cX14_holds 38 = .ok (.aload_n 3, 1) := by decide +kernel
theorem dX14_holds_39 : decode cX14_holds 39 = .ok (.getfield 327, 3) := by decide +kernel
theorem dX14_holds_42 : decode cX14_holds 42 = .ok (.iload 5, 2) := by decide +kernel
theorem dX14_holds_44 : decode cX14_holds 44 = .ok (.iaload, 1) := by decide +kernel
theorem dX14_holds_45 : decode cX14_holds 45 = .ok (.tableswitch 140 3 5 #[27, 56, 98], 27) := by decide +kernel
theorem dX14_holds_72 : decode cX14_holds 72 = .ok (.aload_n 0, 1) := by decide +kernel
theorem dX14_holds_73 : decode cX14_holds 73 = .ok (.getfield 70, 3) := by decide +kernel
theorem dX14_holds_76 : decode cX14_holds 76 = .ok (.iload 4, 2) := by decide +kernel
theorem dX14_holds_78 : decode cX14_holds 78 = .ok (.iconst 1, 1) := by decide +kernel
theorem dX14_holds_79 : decode cX14_holds 79 = .ok (.isub, 1) := by decide +kernel
theorem dX14_holds_80 : decode cX14_holds 80 = .ok (.aload_n 0, 1) := by decide +kernel
theorem dX14_holds_81 : decode cX14_holds 81 = .ok (.getfield 70, 3) := by decide +kernel
theorem dX14_holds_84 : decode cX14_holds 84 = .ok (.iload 4, 2) := by decide +kernel
theorem dX14_holds_86 : decode cX14_holds 86 = .ok (.iconst 1, 1) := by decide +kernel
theorem dX14_holds_87 : decode cX14_holds 87 = .ok (.isub, 1) := by decide +kernel
theorem dX14_holds_88 : decode cX14_holds 88 = .ok (.baload, 1) := by decide +kernel
theorem dX14_holds_89 : decode cX14_holds 89 = .ok (.ifCond .ne 7, 3) := by decide +kernel
theorem dX14_holds_92 : decode cX14_holds 92 = .ok (.iconst 1, 1) := by decide +kernel
theorem dX14_holds_93 : decode cX14_holds 93 = .ok (.goto 4, 3) := by decide +kernel
theorem dX14_holds_96 : decode cX14_holds 96 = .ok (.iconst 0, 1) := by decide +kernel
theorem dX14_holds_97 : decode cX14_holds 97 = .ok (.bastore, 1) := by decide +kernel
theorem dX14_holds_98 : decode cX14_holds 98 = .ok (.goto 193, 3) := by decide +kernel
theorem dX14_holds_101 : decode cX14_holds 101 = .ok (.iinc 4 (-1), 3) := by decide +kernel
theorem dX14_holds_104 : decode cX14_holds 104 = .ok (.aload_n 0, 1) := by decide +kernel
theorem dX14_holds_105 : decode cX14_holds 105 = .ok (.getfield 70, 3) := by decide +kernel
theorem dX14_holds_108 : decode cX14_holds 108 = .ok (.iload 4, 2) := by decide +kernel
theorem dX14_holds_110 : decode cX14_holds 110 = .ok (.iconst 1, 1) := by decide +kernel
theorem dX14_holds_111 : decode cX14_holds 111 = .ok (.isub, 1) := by decide +kernel
theorem dX14_holds_112 : decode cX14_holds 112 = .ok (.aload_n 0, 1) := by decide +kernel
theorem dX14_holds_113 : decode cX14_holds 113 = .ok (.getfield 70, 3) := by decide +kernel
theorem dX14_holds_116 : decode cX14_holds 116 = .ok (.iload 4, 2) := by decide +kernel
theorem dX14_holds_118 : decode cX14_holds 118 = .ok (.iconst 1, 1) := by decide +kernel
theorem dX14_holds_119 : decode cX14_holds 119 = .ok (.isub, 1) := by decide +kernel
theorem dX14_holds_120 : decode cX14_holds 120 = .ok (.baload, 1) := by decide +kernel
theorem dX14_holds_121 : decode cX14_holds 121 = .ok (.ifCond .eq 17, 3) := by decide +kernel
theorem dX14_holds_124 : decode cX14_holds 124 = .ok (.aload_n 0, 1) := by decide +kernel
theorem dX14_holds_125 : decode cX14_holds 125 = .ok (.getfield 70, 3) := by decide +kernel
theorem dX14_holds_128 : decode cX14_holds 128 = .ok (.iload 4, 2) := by decide +kernel
theorem dX14_holds_130 : decode cX14_holds 130 = .ok (.baload, 1) := by decide +kernel
theorem dX14_holds_131 : decode cX14_holds 131 = .ok (.ifCond .eq 7, 3) := by decide +kernel
theorem dX14_holds_134 : decode cX14_holds 134 = .ok (.iconst 1, 1) := by decide +kernel
theorem dX14_holds_135 : decode cX14_holds 135 = .ok (.goto 4, 3) := by decide +kernel
theorem dX14_holds_138 : decode cX14_holds 138 = .ok (.iconst 0, 1) := by decide +kernel
theorem dX14_holds_139 : decode cX14_holds 139 = .ok (.bastore, 1) := by decide +kernel
theorem dX14_holds_140 : decode cX14_holds 140 = .ok (.goto 151, 3) := by decide +kernel
theorem dX14_holds_143 : decode cX14_holds 143 = .ok (.iinc 4 (-1), 3) := by decide +kernel
theorem dX14_holds_146 : decode cX14_holds 146 = .ok (.aload_n 0, 1) := by decide +kernel
theorem dX14_holds_147 : decode cX14_holds 147 = .ok (.getfield 70, 3) := by decide +kernel
theorem dX14_holds_150 : decode cX14_holds 150 = .ok (.iload 4, 2) := by decide +kernel
theorem dX14_holds_152 : decode cX14_holds 152 = .ok (.iconst 1, 1) := by decide +kernel
theorem dX14_holds_153 : decode cX14_holds 153 = .ok (.isub, 1) := by decide +kernel
theorem dX14_holds_154 : decode cX14_holds 154 = .ok (.aload_n 0, 1) := by decide +kernel
theorem dX14_holds_155 : decode cX14_holds 155 = .ok (.getfield 70, 3) := by decide +kernel
theorem dX14_holds_158 : decode cX14_holds 158 = .ok (.iload 4, 2) := by decide +kernel
theorem dX14_holds_160 : decode cX14_holds 160 = .ok (.iconst 1, 1) := by decide +kernel
theorem dX14_holds_161 : decode cX14_holds 161 = .ok (.isub, 1) := by decide +kernel
theorem dX14_holds_162 : decode cX14_holds 162 = .ok (.baload, 1) := by decide +kernel
theorem dX14_holds_163 : decode cX14_holds 163 = .ok (.ifCond .ne 13, 3) := by decide +kernel
theorem dX14_holds_166 : decode cX14_holds 166 = .ok (.aload_n 0, 1) := by decide +kernel
theorem dX14_holds_167 : decode cX14_holds 167 = .ok (.getfield 70, 3) := by decide +kernel
theorem dX14_holds_170 : decode cX14_holds 170 = .ok (.iload 4, 2) := by decide +kernel
theorem dX14_holds_172 : decode cX14_holds 172 = .ok (.baload, 1) := by decide +kernel
theorem dX14_holds_173 : decode cX14_holds 173 = .ok (.ifCond .eq 7, 3) := by decide +kernel
theorem dX14_holds_176 : decode cX14_holds 176 = .ok (.iconst 1, 1) := by decide +kernel
theorem dX14_holds_177 : decode cX14_holds 177 = .ok (.goto 4, 3) := by decide +kernel
theorem dX14_holds_180 : decode cX14_holds 180 = .ok (.iconst 0, 1) := by decide +kernel
theorem dX14_holds_181 : decode cX14_holds 181 = .ok (.bastore, 1) := by decide +kernel
theorem dX14_holds_182 : decode cX14_holds 182 = .ok (.goto 109, 3) := by decide +kernel
theorem dX14_holds_185 : decode cX14_holds 185 = .ok (.aload_n 0, 1) := by decide +kernel
theorem dX14_holds_186 : decode cX14_holds 186 = .ok (.iload_n 1, 1) := by decide +kernel
theorem dX14_holds_187 : decode cX14_holds 187 = .ok (.iload_n 2, 1) := by decide +kernel
theorem dX14_holds_188 : decode cX14_holds 188 = .ok (.aload_n 3, 1) := by decide +kernel
theorem dX14_holds_189 : decode cX14_holds 189 = .ok (.getfield 330, 3) := by decide +kernel
theorem dX14_holds_192 : decode cX14_holds 192 = .ok (.iload 5, 2) := by decide +kernel
theorem dX14_holds_194 : decode cX14_holds 194 = .ok (.iaload, 1) := by decide +kernel
theorem dX14_holds_195 : decode cX14_holds 195 = .ok (.invokevirtual 323, 3) := by decide +kernel
theorem dX14_holds_198 : decode cX14_holds 198 = .ok (.istore 6, 2) := by decide +kernel
theorem dX14_holds_200 : decode cX14_holds 200 = .ok (.aload_n 0, 1) := by decide +kernel
theorem dX14_holds_201 : decode cX14_holds 201 = .ok (.getfield 70, 3) := by decide +kernel
theorem dX14_holds_204 : decode cX14_holds 204 = .ok (.iload 4, 2) := by decide +kernel
theorem dX14_holds_206 : decode cX14_holds 206 = .ok (.aload_n 3, 1) := by decide +kernel
theorem dX14_holds_207 : decode cX14_holds 207 = .ok (.getfield 327, 3) := by decide +kernel
theorem dX14_holds_210 : decode cX14_holds 210 = .ok (.iload 5, 2) := by decide +kernel
theorem dX14_holds_212 : decode cX14_holds 212 = .ok (.iaload, 1) := by decide +kernel
theorem dX14_holds_213 : decode cX14_holds 213 = .ok (.ifCond .ne 23, 3) := by decide +kernel
theorem dX14_holds_216 : decode cX14_holds 216 = .ok (.iload 6, 2) := by decide +kernel
theorem dX14_holds_218 : decode cX14_holds 218 = .ok (.aload_n 3, 1) := by decide +kernel
theorem dX14_holds_219 : decode cX14_holds 219 = .ok (.getfield 333, 3) := by decide +kernel
theorem dX14_holds_222 : decode cX14_holds 222 = .ok (.iload 5, 2) := by decide +kernel
theorem dX14_holds_224 : decode cX14_holds 224 = .ok (.iaload, 1) := by decide +kernel
theorem dX14_holds_225 : decode cX14_holds 225 = .ok (.if_icmp .ge 7, 3) := by decide +kernel
theorem dX14_holds_228 : decode cX14_holds 228 = .ok (.iconst 1, 1) := by decide +kernel
theorem dX14_holds_229 : decode cX14_holds 229 = .ok (.goto 55, 3) := by decide +kernel
theorem dX14_holds_232 : decode cX14_holds 232 = .ok (.iconst 0, 1) := by decide +kernel
theorem dX14_holds_233 : decode cX14_holds 233 = .ok (.goto 51, 3) := by decide +kernel
theorem dX14_holds_236 : decode cX14_holds 236 = .ok (.aload_n 3, 1) := by decide +kernel
theorem dX14_holds_237 : decode cX14_holds 237 = .ok (.getfield 327, 3) := by decide +kernel
theorem dX14_holds_240 : decode cX14_holds 240 = .ok (.iload 5, 2) := by decide +kernel
theorem dX14_holds_242 : decode cX14_holds 242 = .ok (.iaload, 1) := by decide +kernel
theorem dX14_holds_243 : decode cX14_holds 243 = .ok (.iconst 1, 1) := by decide +kernel
theorem dX14_holds_244 : decode cX14_holds 244 = .ok (.if_icmp .ne 23, 3) := by decide +kernel
theorem dX14_holds_247 : decode cX14_holds 247 = .ok (.iload 6, 2) := by decide +kernel
theorem dX14_holds_249 : decode cX14_holds 249 = .ok (.aload_n 3, 1) := by decide +kernel
theorem dX14_holds_250 : decode cX14_holds 250 = .ok (.getfield 333, 3) := by decide +kernel
theorem dX14_holds_253 : decode cX14_holds 253 = .ok (.iload 5, 2) := by decide +kernel
theorem dX14_holds_255 : decode cX14_holds 255 = .ok (.iaload, 1) := by decide +kernel
theorem dX14_holds_256 : decode cX14_holds 256 = .ok (.if_icmp .le 7, 3) := by decide +kernel
theorem dX14_holds_259 : decode cX14_holds 259 = .ok (.iconst 1, 1) := by decide +kernel
theorem dX14_holds_260 : decode cX14_holds 260 = .ok (.goto 24, 3) := by decide +kernel
theorem dX14_holds_263 : decode cX14_holds 263 = .ok (.iconst 0, 1) := by decide +kernel
theorem dX14_holds_264 : decode cX14_holds 264 = .ok (.goto 20, 3) := by decide +kernel
theorem dX14_holds_267 : decode cX14_holds 267 = .ok (.iload 6, 2) := by decide +kernel
theorem dX14_holds_269 : decode cX14_holds 269 = .ok (.aload_n 3, 1) := by decide +kernel
theorem dX14_holds_270 : decode cX14_holds 270 = .ok (.getfield 333, 3) := by decide +kernel
theorem dX14_holds_273 : decode cX14_holds 273 = .ok (.iload 5, 2) := by decide +kernel
theorem dX14_holds_275 : decode cX14_holds 275 = .ok (.iaload, 1) := by decide +kernel
theorem dX14_holds_276 : decode cX14_holds 276 = .ok (.if_icmp .ne 7, 3) := by decide +kernel
theorem dX14_holds_279 : decode cX14_holds 279 = .ok (.iconst 1, 1) := by decide +kernel
theorem dX14_holds_280 : decode cX14_holds 280 = .ok (.goto 4, 3) := by decide +kernel
theorem dX14_holds_283 : decode cX14_holds 283 = .ok (.iconst 0, 1) := by decide +kernel
theorem dX14_holds_284 : decode cX14_holds 284 = .ok (.bastore, 1) := by decide +kernel
theorem dX14_holds_285 : decode cX14_holds 285 = .ok (.iinc 4 1, 3) := by decide +kernel
theorem dX14_holds_288 : decode cX14_holds 288 = .ok (.goto 3, 3) := by decide +kernel
theorem dX14_holds_291 : decode cX14_holds 291 = .ok (.iinc 5 1, 3) := by decide +kernel
theorem dX14_holds_294 : decode cX14_holds 294 = .ok (.goto (-270), 3) := by decide +kernel
theorem dX14_holds_297 : decode cX14_holds 297 = .ok (.aload_n 0, 1) := by decide +kernel
theorem dX14_holds_298 : decode cX14_holds 298 = .ok (.getfield 70, 3) := by decide +kernel
theorem dX14_holds_301 : decode cX14_holds 301 = .ok (.iconst 0, 1) := by decide +kernel
theorem dX14_holds_302 : decode cX14_holds 302 = .ok (.baload, 1) := by decide +kernel
theorem dX14_holds_303 : decode cX14_holds 303 = .ok (.ireturn, 1) := by decide +kernel
theorem dX14_barsOf_0 : decode cX14_barsOf 0 = .ok (.iconst 1, 1) := by decide +kernel
theorem dX14_barsOf_1 : decode cX14_barsOf 1 = .ok (.istore 4, 2) := by decide +kernel
theorem dX14_barsOf_3 : decode cX14_barsOf 3 = .ok (.iload 4, 2) := by decide +kernel
theorem dX14_barsOf_5 : decode cX14_barsOf 5 = .ok (.bipush 12, 2) := by decide +kernel
theorem dX14_barsOf_7 : decode cX14_barsOf 7 = .ok (.if_icmp .gt 32, 3) := by decide +kernel
theorem dX14_barsOf_10 : decode cX14_barsOf 10 = .ok (.aload_n 0, 1) := by decide +kernel
theorem dX14_barsOf_11 : decode cX14_barsOf 11 = .ok (.iload_n 2, 1) := by decide +kernel
theorem dX14_barsOf_12 : decode cX14_barsOf 12 = .ok (.iload 4, 2) := by decide +kernel
theorem dX14_barsOf_14 : decode cX14_barsOf 14 = .ok (.iload_n 3, 1) := by decide +kernel
theorem dX14_barsOf_15 : decode cX14_barsOf 15 = .ok (.invokevirtual 301, 3) := by decide +kernel
theorem dX14_barsOf_18 : decode cX14_barsOf 18 = .ok (.ifCond .eq 15, 3) := by decide +kernel
theorem dX14_barsOf_21 : decode cX14_barsOf 21 = .ok (.aload_n 0, 1) := by decide +kernel
theorem dX14_barsOf_22 : decode cX14_barsOf 22 = .ok (.iload_n 1, 1) := by decide +kernel
theorem dX14_barsOf_23 : decode cX14_barsOf 23 = .ok (.iload_n 3, 1) := by decide +kernel
theorem dX14_barsOf_24 : decode cX14_barsOf 24 = .ok (.invokevirtual 336, 3) := by decide +kernel
theorem dX14_barsOf_27 : decode cX14_barsOf 27 = .ok (.ifCond .ne 6, 3) := by decide +kernel
theorem dX14_barsOf_30 : decode cX14_barsOf 30 = .ok (.iload 4, 2) := by decide +kernel
theorem dX14_barsOf_32 : decode cX14_barsOf 32 = .ok (.ireturn, 1) := by decide +kernel
theorem dX14_barsOf_33 : decode cX14_barsOf 33 = .ok (.iinc 4 1, 3) := by decide +kernel
theorem dX14_barsOf_36 : decode cX14_barsOf 36 = .ok (.goto (-33), 3) := by decide +kernel
theorem dX14_barsOf_39 : decode cX14_barsOf 39 = .ok (.bipush (-2), 2) := by decide +kernel
theorem dX14_barsOf_41 : decode cX14_barsOf 41 = .ok (.ireturn, 1) := by decide +kernel
theorem dX14_mayCome_0 : decode cX14_mayCome 0 = .ok (.aload_n 0, 1) := by decide +kernel
theorem dX14_mayCome_1 : decode cX14_mayCome 1 = .ok (.iload_n 2, 1) := by decide +kernel
theorem dX14_mayCome_2 : decode cX14_mayCome 2 = .ok (.iload_n 3, 1) := by decide +kernel
theorem dX14_mayCome_3 : decode cX14_mayCome 3 = .ok (.invokevirtual 304, 3) := by decide +kernel
theorem dX14_mayCome_6 : decode cX14_mayCome 6 = .ok (.ifCond .le 49, 3) := by decide +kernel
theorem dX14_mayCome_9 : decode cX14_mayCome 9 = .ok (.aload_n 0, 1) := by decide +kernel
theorem dX14_mayCome_10 : decode cX14_mayCome 10 = .ok (.getfield 42, 3) := by decide +kernel
theorem dX14_mayCome_13 : decode cX14_mayCome 13 = .ok (.iload_n 1, 1) := by decide +kernel
theorem dX14_mayCome_14 : decode cX14_mayCome 14 = .ok (.iaload, 1) := by decide +kernel
theorem dX14_mayCome_15 : decode cX14_mayCome 15 = .ok (.iload_n 3, 1) := by decide +kernel
theorem dX14_mayCome_16 : decode cX14_mayCome 16 = .ok (.if_icmp .gt 39, 3) := by decide +kernel
theorem dX14_mayCome_19 : decode cX14_mayCome 19 = .ok (.aload_n 0, 1) := by decide +kernel
theorem dX14_mayCome_20 : decode cX14_mayCome 20 = .ok (.getfield 45, 3) := by decide +kernel
theorem dX14_mayCome_23 : decode cX14_mayCome 23 = .ok (.iload_n 1, 1) := by decide +kernel
theorem dX14_mayCome_24 : decode cX14_mayCome 24 = .ok (.iaload, 1) := by decide +kernel
theorem dX14_mayCome_25 : decode cX14_mayCome 25 = .ok (.iconst (-1), 1) := by decide +kernel
theorem dX14_mayCome_26 : decode cX14_mayCome 26 = .ok (.if_icmp .eq 13, 3) := by decide +kernel
theorem dX14_mayCome_29 : decode cX14_mayCome 29 = .ok (.aload_n 0, 1) := by decide +kernel
theorem dX14_mayCome_30 : decode cX14_mayCome 30 = .ok (.getfield 45, 3) := by decide +kernel
theorem dX14_mayCome_33 : decode cX14_mayCome 33 = .ok (.iload_n 1, 1) := by decide +kernel
theorem dX14_mayCome_34 : decode cX14_mayCome 34 = .ok (.iaload, 1) := by decide +kernel
theorem dX14_mayCome_35 : decode cX14_mayCome 35 = .ok (.iload_n 3, 1) := by decide +kernel
theorem dX14_mayCome_36 : decode cX14_mayCome 36 = .ok (.if_icmp .le 19, 3) := by decide +kernel
theorem dX14_mayCome_39 : decode cX14_mayCome 39 = .ok (.aload_n 0, 1) := by decide +kernel
theorem dX14_mayCome_40 : decode cX14_mayCome 40 = .ok (.iload_n 1, 1) := by decide +kernel
theorem dX14_mayCome_41 : decode cX14_mayCome 41 = .ok (.iload_n 2, 1) := by decide +kernel
theorem dX14_mayCome_42 : decode cX14_mayCome 42 = .ok (.iload_n 3, 1) := by decide +kernel
theorem dX14_mayCome_43 : decode cX14_mayCome 43 = .ok (.invokevirtual 340, 3) := by decide +kernel
theorem dX14_mayCome_46 : decode cX14_mayCome 46 = .ok (.bipush (-2), 2) := by decide +kernel
theorem dX14_mayCome_48 : decode cX14_mayCome 48 = .ok (.if_icmp .ne 7, 3) := by decide +kernel
theorem dX14_mayCome_51 : decode cX14_mayCome 51 = .ok (.iconst 1, 1) := by decide +kernel
theorem dX14_mayCome_52 : decode cX14_mayCome 52 = .ok (.goto 4, 3) := by decide +kernel
theorem dX14_mayCome_55 : decode cX14_mayCome 55 = .ok (.iconst 0, 1) := by decide +kernel
theorem dX14_mayCome_56 : decode cX14_mayCome 56 = .ok (.ireturn, 1) := by decide +kernel
theorem dX14_isAsked_0 : decode cX14_isAsked 0 = .ok (.aload_n 0, 1) := by decide +kernel
theorem dX14_isAsked_1 : decode cX14_isAsked 1 = .ok (.iload_n 1, 1) := by decide +kernel
theorem dX14_isAsked_2 : decode cX14_isAsked 2 = .ok (.invokevirtual 315, 3) := by decide +kernel
theorem dX14_isAsked_5 : decode cX14_isAsked 5 = .ok (.ifCond .eq 22, 3) := by decide +kernel
theorem dX14_isAsked_8 : decode cX14_isAsked 8 = .ok (.aload_n 0, 1) := by decide +kernel
theorem dX14_isAsked_9 : decode cX14_isAsked 9 = .ok (.iload_n 2, 1) := by decide +kernel
theorem dX14_isAsked_10 : decode cX14_isAsked 10 = .ok (.invokevirtual 274, 3) := by decide +kernel
theorem dX14_isAsked_13 : decode cX14_isAsked 13 = .ok (.ifCond .eq 14, 3) := by decide +kernel
theorem dX14_isAsked_16 : decode cX14_isAsked 16 = .ok (.iload_n 3, 1) := by decide +kernel
theorem dX14_isAsked_17 : decode cX14_isAsked 17 = .ok (.invokestatic 277, 3) := by decide +kernel
theorem dX14_isAsked_20 : decode cX14_isAsked 20 = .ok (.ifCond .eq 7, 3) := by decide +kernel
theorem dX14_isAsked_23 : decode cX14_isAsked 23 = .ok (.iconst 1, 1) := by decide +kernel
theorem dX14_isAsked_24 : decode cX14_isAsked 24 = .ok (.goto 4, 3) := by decide +kernel
theorem dX14_isAsked_27 : decode cX14_isAsked 27 = .ok (.iconst 0, 1) := by decide +kernel
theorem dX14_isAsked_28 : decode cX14_isAsked 28 = .ok (.ireturn, 1) := by decide +kernel
theorem dX14_may_0 : decode cX14_may 0 = .ok (.aload_n 0, 1) := by decide +kernel
theorem dX14_may_1 : decode cX14_may 1 = .ok (.iconst 0, 1) := by decide +kernel
theorem dX14_may_2 : decode cX14_may 2 = .ok (.putfield 112, 3) := by decide +kernel
theorem dX14_may_5 : decode cX14_may 5 = .ok (.aload_n 0, 1) := by decide +kernel
theorem dX14_may_6 : decode cX14_may 6 = .ok (.iload_n 1, 1) := by decide +kernel
theorem dX14_may_7 : decode cX14_may 7 = .ok (.iload_n 2, 1) := by decide +kernel
theorem dX14_may_8 : decode cX14_may 8 = .ok (.iload_n 3, 1) := by decide +kernel
theorem dX14_may_9 : decode cX14_may 9 = .ok (.invokevirtual 343, 3) := by decide +kernel
theorem dX14_may_12 : decode cX14_may 12 = .ok (.ifCond .eq 21, 3) := by decide +kernel
theorem dX14_may_15 : decode cX14_may 15 = .ok (.aload_n 0, 1) := by decide +kernel
theorem dX14_may_16 : decode cX14_may 16 = .ok (.iload_n 1, 1) := by decide +kernel
theorem dX14_may_17 : decode cX14_may 17 = .ok (.iload_n 2, 1) := by decide +kernel
theorem dX14_may_18 : decode cX14_may 18 = .ok (.iload_n 3, 1) := by decide +kernel
theorem dX14_may_19 : decode cX14_may 19 = .ok (.invokevirtual 346, 3) := by decide +kernel
theorem dX14_may_22 : decode cX14_may 22 = .ok (.ifCond .eq 7, 3) := by decide +kernel
theorem dX14_may_25 : decode cX14_may 25 = .ok (.iconst 1, 1) := by decide +kernel
theorem dX14_may_26 : decode cX14_may 26 = .ok (.goto 8, 3) := by decide +kernel
theorem dX14_may_29 : decode cX14_may 29 = .ok (.iconst 0, 1) := by decide +kernel
theorem dX14_may_30 : decode cX14_may 30 = .ok (.goto 4, 3) := by decide +kernel
theorem dX14_may_33 : decode cX14_may 33 = .ok (.iconst (-1), 1) := by decide +kernel
theorem dX14_may_34 : decode cX14_may 34 = .ok (.ireturn, 1) := by decide +kernel
theorem dX14_bars_0 : decode cX14_bars 0 = .ok (.aload_n 0, 1) := by decide +kernel
theorem dX14_bars_1 : decode cX14_bars 1 = .ok (.iconst 0, 1) := by decide +kernel
theorem dX14_bars_2 : decode cX14_bars 2 = .ok (.putfield 112, 3) := by decide +kernel
theorem dX14_bars_5 : decode cX14_bars 5 = .ok (.aload_n 0, 1) := by decide +kernel
