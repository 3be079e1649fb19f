theorem dX8_keywordKind_17 : decode cX8_keywordKind 17 = .ok (.ifCond .eq 6, 3) := by decide +kernel
theorem dX8_keywordKind_20 : decode cX8_keywordKind 20 = .ok (.bipush 6, 2) := by decide +kernel
theorem dX8_keywordKind_22 : decode cX8_keywordKind 22 = .ok (.ireturn, 1) := by decide +kernel
theorem dX8_keywordKind_23 : decode cX8_keywordKind 23 = .ok (.aload_n 0, 1) := by decide +kernel
theorem dX8_keywordKind_24 : decode cX8_keywordKind 24 = .ok (.ldc 69, 2) := by decide +kernel
theorem dX8_keywordKind_26 : decode cX8_keywordKind 26 = .ok (.invokevirtual 63, 3) := by decide +kernel
theorem dX8_keywordKind_29 : decode cX8_keywordKind 29 = .ok (.ifCond .eq 6, 3) := by decide +kernel
theorem dX8_keywordKind_32 : decode cX8_keywordKind 32 = .ok (.bipush 7, 2) := by decide +kernel
theorem dX8_keywordKind_34 : decode cX8_keywordKind 34 = .ok (.ireturn, 1) := by decide +kernel
theorem dX8_keywordKind_35 : decode cX8_keywordKind 35 = .ok (.aload_n 0, 1) := by decide +kernel
theorem dX8_keywordKind_36 : decode cX8_keywordKind 36 = .ok (.ldc 71, 2) := by decide +kernel
theorem dX8_keywordKind_38 : decode cX8_keywordKind 38 = .ok (.invokevirtual 63, 3) := by decide +kernel
theorem dX8_keywordKind_41 : decode cX8_keywordKind 41 = .ok (.ifCond .eq 6, 3) := by decide +kernel
theorem dX8_keywordKind_44 : decode cX8_keywordKind 44 = .ok (.bipush 8, 2) := by decide +kernel
theorem dX8_keywordKind_46 : decode cX8_keywordKind 46 = .ok (.ireturn, 1) := by decide +kernel
theorem dX8_keywordKind_47 : decode cX8_keywordKind 47 = .ok (.aload_n 0, 1) := by decide +kernel
theorem dX8_keywordKind_48 : decode cX8_keywordKind 48 = .ok (.ldc 73, 2) := by decide +kernel
theorem dX8_keywordKind_50 : decode cX8_keywordKind 50 = .ok (.invokevirtual 63, 3) := by decide +kernel
theorem dX8_keywordKind_53 : decode cX8_keywordKind 53 = .ok (.ifCond .eq 6, 3) := by decide +kernel
theorem dX8_keywordKind_56 : decode cX8_keywordKind 56 = .ok (.bipush 9, 2) := by decide +kernel
theorem dX8_keywordKind_58 : decode cX8_keywordKind 58 = .ok (.ireturn, 1) := by decide +kernel
theorem dX8_keywordKind_59 : decode cX8_keywordKind 59 = .ok (.aload_n 0, 1) := by decide +kernel
theorem dX8_keywordKind_60 : decode cX8_keywordKind 60 = .ok (.ldc 75, 2) := by decide +kernel
theorem dX8_keywordKind_62 : decode cX8_keywordKind 62 = .ok (.invokevirtual 63, 3) := by decide +kernel
theorem dX8_keywordKind_65 : decode cX8_keywordKind 65 = .ok (.ifCond .eq 8, 3) := by decide +kernel
theorem dX8_keywordKind_68 : decode cX8_keywordKind 68 = .ok (.bipush 10, 2) := by decide +kernel
theorem dX8_keywordKind_70 : decode cX8_keywordKind 70 = .ok (.goto 4, 3) := by decide +kernel
theorem dX8_keywordKind_73 : decode cX8_keywordKind 73 = .ok (.iconst 3, 1) := by decide +kernel
theorem dX8_keywordKind_74 : decode cX8_keywordKind 74 = .ok (.ireturn, 1) := by decide +kernel
theorem dX8_nameNumber_0 : decode cX8_nameNumber 0 = .ok (.aload_n 0, 1) := by decide +kernel
theorem dX8_nameNumber_1 : decode cX8_nameNumber 1 = .ok (.ldc 77, 2) := by decide +kernel
theorem dX8_nameNumber_3 : decode cX8_nameNumber 3 = .ok (.invokevirtual 63, 3) := by decide +kernel
theorem dX8_nameNumber_6 : decode cX8_nameNumber 6 = .ok (.ifCond .eq 5, 3) := by decide +kernel
theorem dX8_nameNumber_9 : decode cX8_nameNumber 9 = .ok (.iconst 0, 1) := by decide +kernel
theorem dX8_nameNumber_10 : decode cX8_nameNumber 10 = .ok (.ireturn, 1) := by decide +kernel
theorem dX8_nameNumber_11 : decode cX8_nameNumber 11 = .ok (.aload_n 0, 1) := by decide +kernel
theorem dX8_nameNumber_12 : decode cX8_nameNumber 12 = .ok (.ldc 79, 2) := by decide +kernel
theorem dX8_nameNumber_14 : decode cX8_nameNumber 14 = .ok (.invokevirtual 63, 3) := by decide +kernel
theorem dX8_nameNumber_17 : decode cX8_nameNumber 17 = .ok (.ifCond .eq 5, 3) := by decide +kernel
theorem dX8_nameNumber_20 : decode cX8_nameNumber 20 = .ok (.iconst 1, 1) := by decide +kernel
theorem dX8_nameNumber_21 : decode cX8_nameNumber 21 = .ok (.ireturn, 1) := by decide +kernel
theorem dX8_nameNumber_22 : decode cX8_nameNumber 22 = .ok (.aload_n 0, 1) := by decide +kernel
theorem dX8_nameNumber_23 : decode cX8_nameNumber 23 = .ok (.ldc 81, 2) := by decide +kernel
theorem dX8_nameNumber_25 : decode cX8_nameNumber 25 = .ok (.invokevirtual 63, 3) := by decide +kernel
theorem dX8_nameNumber_28 : decode cX8_nameNumber 28 = .ok (.ifCond .eq 5, 3) := by decide +kernel
theorem dX8_nameNumber_31 : decode cX8_nameNumber 31 = .ok (.iconst 2, 1) := by decide +kernel
theorem dX8_nameNumber_32 : decode cX8_nameNumber 32 = .ok (.ireturn, 1) := by decide +kernel
theorem dX8_nameNumber_33 : decode cX8_nameNumber 33 = .ok (.aload_n 0, 1) := by decide +kernel
theorem dX8_nameNumber_34 : decode cX8_nameNumber 34 = .ok (.ldc 83, 2) := by decide +kernel
theorem dX8_nameNumber_36 : decode cX8_nameNumber 36 = .ok (.invokevirtual 63, 3) := by decide +kernel
theorem dX8_nameNumber_39 : decode cX8_nameNumber 39 = .ok (.ifCond .eq 5, 3) := by decide +kernel
theorem dX8_nameNumber_42 : decode cX8_nameNumber 42 = .ok (.iconst 3, 1) := by decide +kernel
theorem dX8_nameNumber_43 : decode cX8_nameNumber 43 = .ok (.ireturn, 1) := by decide +kernel
theorem dX8_nameNumber_44 : decode cX8_nameNumber 44 = .ok (.aload_n 0, 1) := by decide +kernel
theorem dX8_nameNumber_45 : decode cX8_nameNumber 45 = .ok (.ldc 85, 2) := by decide +kernel
theorem dX8_nameNumber_47 : decode cX8_nameNumber 47 = .ok (.invokevirtual 63, 3) := by decide +kernel
theorem dX8_nameNumber_50 : decode cX8_nameNumber 50 = .ok (.ifCond .eq 7, 3) := by decide +kernel
theorem dX8_nameNumber_53 : decode cX8_nameNumber 53 = .ok (.iconst 4, 1) := by decide +kernel
theorem dX8_nameNumber_54 : decode cX8_nameNumber 54 = .ok (.goto 4, 3) := by decide +kernel
theorem dX8_nameNumber_57 : decode cX8_nameNumber 57 = .ok (.iconst (-1), 1) := by decide +kernel
theorem dX8_nameNumber_58 : decode cX8_nameNumber 58 = .ok (.ireturn, 1) := by decide +kernel
theorem dX8_spells_0 : decode cX8_spells 0 = .ok (.aload_n 0, 1) := by decide +kernel
theorem dX8_spells_1 : decode cX8_spells 1 = .ok (.getfield 22, 3) := by decide +kernel
theorem dX8_spells_4 : decode cX8_spells 4 = .ok (.aload_n 0, 1) := by decide +kernel
theorem dX8_spells_5 : decode cX8_spells 5 = .ok (.getfield 29, 3) := by decide +kernel
theorem dX8_spells_8 : decode cX8_spells 8 = .ok (.isub, 1) := by decide +kernel
theorem dX8_spells_9 : decode cX8_spells 9 = .ok (.aload_n 1, 1) := by decide +kernel
theorem dX8_spells_10 : decode cX8_spells 10 = .ok (.invokevirtual 87, 3) := by decide +kernel
theorem dX8_spells_13 : decode cX8_spells 13 = .ok (.if_icmp .eq 5, 3) := by decide +kernel
theorem dX8_spells_16 : decode cX8_spells 16 = .ok (.iconst 0, 1) := by decide +kernel
theorem dX8_spells_17 : decode cX8_spells 17 = .ok (.ireturn, 1) := by decide +kernel
theorem dX8_spells_18 : decode cX8_spells 18 = .ok (.iconst 0, 1) := by decide +kernel
theorem dX8_spells_19 : decode cX8_spells 19 = .ok (.istore_n 2, 1) := by decide +kernel
theorem dX8_spells_20 : decode cX8_spells 20 = .ok (.iload_n 2, 1) := by decide +kernel
theorem dX8_spells_21 : decode cX8_spells 21 = .ok (.aload_n 1, 1) := by decide +kernel
theorem dX8_spells_22 : decode cX8_spells 22 = .ok (.invokevirtual 87, 3) := by decide +kernel
theorem dX8_spells_25 : decode cX8_spells 25 = .ok (.if_icmp .ge 29, 3) := by decide +kernel
theorem dX8_spells_28 : decode cX8_spells 28 = .ok (.aload_n 0, 1) := by decide +kernel
theorem dX8_spells_29 : decode cX8_spells 29 = .ok (.aload_n 0, 1) := by decide +kernel
theorem dX8_spells_30 : decode cX8_spells 30 = .ok (.getfield 29, 3) := by decide +kernel
theorem dX8_spells_33 : decode cX8_spells 33 = .ok (.iload_n 2, 1) := by decide +kernel
theorem dX8_spells_34 : decode cX8_spells 34 = .ok (.iadd, 1) := by decide +kernel
theorem dX8_spells_35 : decode cX8_spells 35 = .ok (.invokevirtual 25, 3) := by decide +kernel
theorem dX8_spells_38 : decode cX8_spells 38 = .ok (.aload_n 1, 1) := by decide +kernel
theorem dX8_spells_39 : decode cX8_spells 39 = .ok (.iload_n 2, 1) := by decide +kernel
theorem dX8_spells_40 : decode cX8_spells 40 = .ok (.invokevirtual 91, 3) := by decide +kernel
theorem dX8_spells_43 : decode cX8_spells 43 = .ok (.if_icmp .eq 5, 3) := by decide +kernel
theorem dX8_spells_46 : decode cX8_spells 46 = .ok (.iconst 0, 1) := by decide +kernel
theorem dX8_spells_47 : decode cX8_spells 47 = .ok (.ireturn, 1) := by decide +kernel
theorem dX8_spells_48 : decode cX8_spells 48 = .ok (.iinc 2 1, 3) := by decide +kernel
theorem dX8_spells_51 : decode cX8_spells 51 = .ok (.goto (-31), 3) := by decide +kernel
theorem dX8_spells_54 : decode cX8_spells 54 = .ok (.iconst 1, 1) := by decide +kernel
theorem dX8_spells_55 : decode cX8_spells 55 = .ok (.ireturn, 1) := by decide +kernel
theorem dX8_byteAt_0 : decode cX8_byteAt 0 = .ok (.iload_n 1, 1) := by decide +kernel
theorem dX8_byteAt_1 : decode cX8_byteAt 1 = .ok (.ifCond .lt 21, 3) := by decide +kernel
theorem dX8_byteAt_4 : decode cX8_byteAt 4 = .ok (.iload_n 1, 1) := by decide +kernel
theorem dX8_byteAt_5 : decode cX8_byteAt 5 = .ok (.aload_n 0, 1) := by decide +kernel
theorem dX8_byteAt_6 : decode cX8_byteAt 6 = .ok (.getfield 9, 3) := by decide +kernel
theorem dX8_byteAt_9 : decode cX8_byteAt 9 = .ok (.arraylength, 1) := by decide +kernel
theorem dX8_byteAt_10 : decode cX8_byteAt 10 = .ok (.if_icmp .ge 12, 3) := by decide +kernel
theorem dX8_byteAt_13 : decode cX8_byteAt 13 = .ok (.aload_n 0, 1) := by decide +kernel
theorem dX8_byteAt_14 : decode cX8_byteAt 14 = .ok (.getfield 9, 3) := by decide +kernel
theorem dX8_byteAt_17 : decode cX8_byteAt 17 = .ok (.iload_n 1, 1) := by decide +kernel
theorem dX8_byteAt_18 : decode cX8_byteAt 18 = .ok (.iaload, 1) := by decide +kernel
theorem dX8_byteAt_19 : decode cX8_byteAt 19 = .ok (.goto 4, 3) := by decide +kernel
theorem dX8_byteAt_22 : decode cX8_byteAt 22 = .ok (.iconst 0, 1) := by decide +kernel
theorem dX8_byteAt_23 : decode cX8_byteAt 23 = .ok (.ireturn, 1) := by decide +kernel
theorem dX8_isDigit_0 : decode cX8_isDigit 0 = .ok (.iload_n 0, 1) := by decide +kernel
theorem dX8_isDigit_1 : decode cX8_isDigit 1 = .ok (.bipush 48, 2) := by decide +kernel
theorem dX8_isDigit_3 : decode cX8_isDigit 3 = .ok (.if_icmp .lt 13, 3) := by decide +kernel
theorem dX8_isDigit_6 : decode cX8_isDigit 6 = .ok (.iload_n 0, 1) := by decide +kernel
theorem dX8_isDigit_7 : decode cX8_isDigit 7 = .ok (.bipush 57, 2) := by decide +kernel
theorem dX8_isDigit_9 : decode cX8_isDigit 9 = .ok (.if_icmp .gt 7, 3) := by decide +kernel
theorem dX8_isDigit_12 : decode cX8_isDigit 12 = .ok (.iconst 1, 1) := by decide +kernel
theorem dX8_isDigit_13 : decode cX8_isDigit 13 = .ok (.goto 4, 3) := by decide +kernel
theorem dX8_isDigit_16 : decode cX8_isDigit 16 = .ok (.iconst 0, 1) := by decide +kernel
theorem dX8_isDigit_17 : decode cX8_isDigit 17 = .ok (.ireturn, 1) := by decide +kernel
theorem dX8_isLetter_0 : decode cX8_isLetter 0 = .ok (.iload_n 0, 1) := by decide +kernel
theorem dX8_isLetter_1 : decode cX8_isLetter 1 = .ok (.bipush 97, 2) := by decide +kernel
theorem dX8_isLetter_3 : decode cX8_isLetter 3 = .ok (.if_icmp .lt 13, 3) := by decide +kernel
theorem dX8_isLetter_6 : decode cX8_isLetter 6 = .ok (.iload_n 0, 1) := by decide +kernel
theorem dX8_isLetter_7 : decode cX8_isLetter 7 = .ok (.bipush 122, 2) := by decide +kernel
theorem dX8_isLetter_9 : decode cX8_isLetter 9 = .ok (.if_icmp .gt 7, 3) := by decide +kernel
theorem dX8_isLetter_12 : decode cX8_isLetter 12 = .ok (.iconst 1, 1) := by decide +kernel
theorem dX8_isLetter_13 : decode cX8_isLetter 13 = .ok (.goto 4, 3) := by decide +kernel
theorem dX8_isLetter_16 : decode cX8_isLetter 16 = .ok (.iconst 0, 1) := by decide +kernel
theorem dX8_isLetter_17 : decode cX8_isLetter 17 = .ok (.ireturn, 1) := by decide +kernel
theorem dX8_isSign_0 : decode cX8_isSign 0 = .ok (.iload_n 0, 1) := by decide +kernel
theorem dX8_isSign_1 : decode cX8_isSign 1 = .ok (.tableswitch 109 40 62 #[107, 107, 107, 107, 109, 109, 109, 109, 109, 109, 109, 109, 109, 109, 109, 109, 109, 109, 109, 107, 107, 107, 107], 107) := by decide +kernel
theorem dX8_isSign_108 : decode cX8_isSign 108 = .ok (.iconst 1, 1) := by decide +kernel
theorem dX8_isSign_109 : decode cX8_isSign 109 = .ok (.ireturn, 1) := by decide +kernel
theorem dX8_isSign_110 : decode cX8_isSign 110 = .ok (.iconst 0, 1) := by decide +kernel
theorem dX8_isSign_111 : decode cX8_isSign 111 = .ok (.ireturn, 1) := by decide +kernel
theorem dX9_init_0 : decode cX9_init 0 = .ok (.aload_n 0, 1) := by decide +kernel
theorem dX9_init_1 : decode cX9_init 1 = .ok (.invokespecial 3, 3) := by decide +kernel
theorem dX9_init_4 : decode cX9_init 4 = .ok (.aload_n 0, 1) := by decide +kernel
theorem dX9_init_5 : decode cX9_init 5 = .ok (.bipush 8, 2) := by decide +kernel
theorem dX9_init_7 : decode cX9_init 7 = .ok (.newarray .boolean, 2) := by decide +kernel
theorem dX9_init_9 : decode cX9_init 9 = .ok (.putfield 9, 3) := by decide +kernel
theorem dX9_init_12 : decode cX9_init 12 = .ok (.return_, 1) := by decide +kernel
theorem dX9_setAbsent_0 : decode cX9_setAbsent 0 = .ok (.iload_n 1, 1) := by decide +kernel
theorem dX9_setAbsent_1 : decode cX9_setAbsent 1 = .ok (.ifCond .lt 19, 3) := by decide +kernel
theorem dX9_setAbsent_4 : decode cX9_setAbsent 4 = .ok (.iload_n 1, 1) := by decide +kernel
theorem dX9_setAbsent_5 : decode cX9_setAbsent 5 = .ok (.aload_n 0, 1) := by decide +kernel
theorem dX9_setAbsent_6 : decode cX9_setAbsent 6 = .ok (.getfield 9, 3) := by decide +kernel
theorem dX9_setAbsent_9 : decode cX9_setAbsent 9 = .ok (.arraylength, 1) := by decide +kernel
theorem dX9_setAbsent_10 : decode cX9_setAbsent 10 = .ok (.if_icmp .ge 10, 3) := by decide +kernel
theorem dX9_setAbsent_13 : decode cX9_setAbsent 13 = .ok (.aload_n 0, 1) := by decide +kernel
theorem dX9_setAbsent_14 : decode cX9_setAbsent 14 = .ok (.getfield 9, 3) := by decide +kernel
theorem dX9_setAbsent_17 : decode cX9_setAbsent 17 = .ok (.iload_n 1, 1) := by decide +kernel
theorem dX9_setAbsent_18 : decode cX9_setAbsent 18 = .ok (.iload_n 2, 1) := by decide +kernel
theorem dX9_setAbsent_19 : decode cX9_setAbsent 19 = .ok (.bastore, 1) := by decide +kernel
theorem dX9_setAbsent_20 : decode cX9_setAbsent 20 = .ok (.return_, 1) := by decide +kernel
theorem dX9_giver_0 : decode cX9_giver 0 = .ok (.aload_n 0, 1) := by decide +kernel
theorem dX9_giver_1 : decode cX9_giver 1 = .ok (.getfield 15, 3) := by decide +kernel
theorem dX9_giver_4 : decode cX9_giver 4 = .ok (.istore_n 1, 1) := by decide +kernel
theorem dX9_giver_5 : decode cX9_giver 5 = .ok (.iconst 0, 1) := by decide +kernel
theorem dX9_giver_6 : decode cX9_giver 6 = .ok (.istore_n 2, 1) := by decide +kernel
theorem dX9_giver_7 : decode cX9_giver 7 = .ok (.iload_n 2, 1) := by decide +kernel
theorem dX9_giver_8 : decode cX9_giver 8 = .ok (.aload_n 0, 1) := by decide +kernel
theorem dX9_giver_9 : decode cX9_giver 9 = .ok (.getfield 19, 3) := by decide +kernel
theorem dX9_giver_12 : decode cX9_giver 12 = .ok (.if_icmp .ge 39, 3) := by decide +kernel
theorem dX9_giver_15 : decode cX9_giver 15 = .ok (.iload_n 1, 1) := by decide +kernel
theorem dX9_giver_16 : decode cX9_giver 16 = .ok (.ifCond .lt 23, 3) := by decide +kernel
theorem dX9_giver_19 : decode cX9_giver 19 = .ok (.iload_n 1, 1) := by decide +kernel
theorem dX9_giver_20 : decode cX9_giver 20 = .ok (.aload_n 0, 1) := by decide +kernel
theorem dX9_giver_21 : decode cX9_giver 21 = .ok (.getfield 9, 3) := by decide +kernel
theorem dX9_giver_24 : decode cX9_giver 24 = .ok (.arraylength, 1) := by decide +kernel
theorem dX9_giver_25 : decode cX9_giver 25 = .ok (.if_icmp .ge 14, 3) := by decide +kernel
theorem dX9_giver_28 : decode cX9_giver 28 = .ok (.aload_n 0, 1) := by decide +kernel
theorem dX9_giver_29 : decode cX9_giver 29 = .ok (.getfield 9, 3) := by decide +kernel
theorem dX9_giver_32 : decode cX9_giver 32 = .ok (.iload_n 1, 1) := by decide +kernel
theorem dX9_giver_33 : decode cX9_giver 33 = .ok (.baload, 1) := by decide +kernel
theorem dX9_giver_34 : decode cX9_giver 34 = .ok (.ifCond .ne 5, 3) := by decide +kernel
theorem dX9_giver_37 : decode cX9_giver 37 = .ok (.iload_n 1, 1) := by decide +kernel
theorem dX9_giver_38 : decode cX9_giver 38 = .ok (.ireturn, 1) := by decide +kernel
theorem dX9_giver_39 : decode cX9_giver 39 = .ok (.aload_n 0, 1) := by decide +kernel
theorem dX9_giver_40 : decode cX9_giver 40 = .ok (.iload_n 1, 1) := by decide +kernel
theorem dX9_giver_41 : decode cX9_giver 41 = .ok (.invokevirtual 22, 3) := by decide +kernel
theorem dX9_giver_44 : decode cX9_giver 44 = .ok (.istore_n 1, 1) := by decide +kernel
theorem dX9_giver_45 : decode cX9_giver 45 = .ok (.iinc 2 1, 3) := by decide +kernel
theorem dX9_giver_48 : decode cX9_giver 48 = .ok (.goto (-41), 3) := by decide +kernel
theorem dX9_giver_51 : decode cX9_giver 51 = .ok (.iconst (-1), 1) := by decide +kernel
theorem dX9_giver_52 : decode cX9_giver 52 = .ok (.ireturn, 1) := by decide +kernel
theorem dX9_moveTurnBehind_0 : decode cX9_moveTurnBehind 0 = .ok (.aload_n 0, 1) := by decide +kernel
theorem dX9_moveTurnBehind_1 : decode cX9_moveTurnBehind 1 = .ok (.aload_n 0, 1) := by decide +kernel
theorem dX9_moveTurnBehind_2 : decode cX9_moveTurnBehind 2 = .ok (.iload_n 1, 1) := by decide +kernel
theorem dX9_moveTurnBehind_3 : decode cX9_moveTurnBehind 3 = .ok (.invokevirtual 22, 3) := by decide +kernel
theorem dX9_moveTurnBehind_6 : decode cX9_moveTurnBehind 6 = .ok (.putfield 15, 3) := by decide +kernel
theorem dX9_moveTurnBehind_9 : decode cX9_moveTurnBehind 9 = .ok (.return_, 1) := by decide +kernel
theorem dX9_behind_0 : decode cX9_behind 0 = .ok (.iload_n 1, 1) := by decide +kernel
theorem dX9_behind_1 : decode cX9_behind 1 = .ok (.iconst 1, 1) := by decide +kernel
theorem dX9_behind_2 : decode cX9_behind 2 = .ok (.iadd, 1) := by decide +kernel
theorem dX9_behind_3 : decode cX9_behind 3 = .ok (.aload_n 0, 1) := by decide +kernel
theorem dX9_behind_4 : decode cX9_behind 4 = .ok (.getfield 19, 3) := by decide +kernel
theorem dX9_behind_7 : decode cX9_behind 7 = .ok (.if_icmp .ge 9, 3) := by decide +kernel
theorem dX9_behind_10 : decode cX9_behind 10 = .ok (.iload_n 1, 1) := by decide +kernel
theorem dX9_behind_11 : decode cX9_behind 11 = .ok (.iconst 1, 1) := by decide +kernel
theorem dX9_behind_12 : decode cX9_behind 12 = .ok (.iadd, 1) := by decide +kernel
theorem dX9_behind_13 : decode cX9_behind 13 = .ok (.goto 4, 3) := by decide +kernel
theorem dX9_behind_16 : decode cX9_behind 16 = .ok (.iconst 0, 1) := by decide +kernel
theorem dX9_behind_17 : decode cX9_behind 17 = .ok (.ireturn, 1) := by decide +kernel
theorem dX10_init_0 : decode cX10_init 0 = .ok (.aload_n 0, 1) := by decide +kernel
theorem dX10_init_1 : decode cX10_init 1 = .ok (.invokespecial 3, 3) := by decide +kernel
theorem dX10_init_4 : decode cX10_init 4 = .ok (.aload_n 0, 1) := by decide +kernel
theorem dX10_init_5 : decode cX10_init 5 = .ok (.sipush 300, 3) := by decide +kernel
theorem dX10_init_8 : decode cX10_init 8 = .ok (.newarray .int, 2) := by decide +kernel
theorem dX10_init_10 : decode cX10_init 10 = .ok (.putfield 9, 3) := by decide +kernel
theorem dX10_init_13 : decode cX10_init 13 = .ok (.aload_n 0, 1) := by decide +kernel
theorem dX10_init_14 : decode cX10_init 14 = .ok (.sipush 300, 3) := by decide +kernel
theorem dX10_init_17 : decode cX10_init 17 = .ok (.newarray .int, 2) := by decide +kernel
theorem dX10_init_19 : decode cX10_init 19 = .ok (.putfield 15, 3) := by decide +kernel
theorem dX10_init_22 : decode cX10_init 22 = .ok (.return_, 1) := by decide +kernel
theorem dX10_begin_0 : decode cX10_begin 0 = .ok (.aload_n 0, 1) := by decide +kernel
theorem dX10_begin_1 : decode cX10_begin 1 = .ok (.iconst 0, 1) := by decide +kernel
theorem dX10_begin_2 : decode cX10_begin 2 = .ok (.putfield 18, 3) := by decide +kernel
theorem dX10_begin_5 : decode cX10_begin 5 = .ok (.aload_n 0, 1) := by decide +kernel
theorem dX10_begin_6 : decode cX10_begin 6 = .ok (.iconst 0, 1) := by decide +kernel
theorem dX10_begin_7 : decode cX10_begin 7 = .ok (.putfield 22, 3) := by decide +kernel
theorem dX10_begin_10 : decode cX10_begin 10 = .ok (.return_, 1) := by decide +kernel
theorem dX10_write_0 : decode cX10_write 0 = .ok (.aload_n 0, 1) := by decide +kernel
theorem dX10_write_1 : decode cX10_write 1 = .ok (.getfield 18, 3) := by decide +kernel
theorem dX10_write_4 : decode cX10_write 4 = .ok (.aload_n 0, 1) := by decide +kernel
theorem dX10_write_5 : decode cX10_write 5 = .ok (.getfield 9, 3) := by decide +kernel
theorem dX10_write_8 : decode cX10_write 8 = .ok (.arraylength, 1) := by decide +kernel
theorem dX10_write_9 : decode cX10_write 9 = .ok (.if_icmp .ge 23, 3) := by decide +kernel
theorem dX10_write_12 : decode cX10_write 12 = .ok (.aload_n 0, 1) := by decide +kernel
theorem dX10_write_13 : decode cX10_write 13 = .ok (.getfield 9, 3) := by decide +kernel
theorem dX10_write_16 : decode cX10_write 16 = .ok (.aload_n 0, 1) := by decide +kernel
theorem dX10_write_17 : decode cX10_write 17 = .ok (.getfield 18, 3) := by decide +kernel
theorem dX10_write_20 : decode cX10_write 20 = .ok (.iload_n 1, 1) := by decide +kernel
theorem dX10_write_21 : decode cX10_write 21 = .ok (.iastore, 1) := by decide +kernel
theorem dX10_write_22 : decode cX10_write 22 = .ok (.aload_n 0, 1) := by decide +kernel
theorem dX10_write_23 : decode cX10_write 23 = .ok (.dup, 1) := by decide +kernel
theorem dX10_write_24 : decode cX10_write 24 = .ok (.getfield 18, 3) := by decide +kernel
theorem dX10_write_27 : decode cX10_write 27 = .ok (.iconst 1, 1) := by decide +kernel
theorem dX10_write_28 : decode cX10_write 28 = .ok (.iadd, 1) := by decide +kernel
theorem dX10_write_29 : decode cX10_write 29 = .ok (.putfield 18, 3) := by decide +kernel
theorem dX10_write_32 : decode cX10_write 32 = .ok (.return_, 1) := by decide +kernel
theorem dX10_hold_0 : decode cX10_hold 0 = .ok (.aload_n 0, 1) := by decide +kernel
theorem dX10_hold_1 : decode cX10_hold 1 = .ok (.getfield 22, 3) := by decide +kernel
theorem dX10_hold_4 : decode cX10_hold 4 = .ok (.aload_n 0, 1) := by decide +kernel
theorem dX10_hold_5 : decode cX10_hold 5 = .ok (.getfield 15, 3) := by decide +kernel
theorem dX10_hold_8 : decode cX10_hold 8 = .ok (.arraylength, 1) := by decide +kernel
theorem dX10_hold_9 : decode cX10_hold 9 = .ok (.if_icmp .ge 23, 3) := by decide +kernel
theorem dX10_hold_12 : decode cX10_hold 12 = .ok (.aload_n 0, 1) := by decide +kernel
theorem dX10_hold_13 : decode cX10_hold 13 = .ok (.getfield 15, 3) := by decide +kernel
theorem dX10_hold_16 : decode cX10_hold 16 = .ok (.aload_n 0, 1) := by decide +kernel
theorem dX10_hold_17 : decode cX10_hold 17 = .ok (.getfield 22, 3) := by decide +kernel
theorem dX10_hold_20 : decode cX10_hold 20 = .ok (.iload_n 1, 1) := by decide +kernel
theorem dX10_hold_21 : decode cX10_hold 21 = .ok (.iastore, 1) := by decide +kernel
theorem dX10_hold_22 : decode cX10_hold 22 = .ok (.aload_n 0, 1) := by decide +kernel
theorem dX10_hold_23 : decode cX10_hold 23 = .ok (.dup, 1) := by decide +kernel
theorem dX10_hold_24 : decode cX10_hold 24 = .ok (.getfield 22, 3) := by decide +kernel
theorem dX10_hold_27 : decode cX10_hold 27 = .ok (.iconst 1, 1) := by decide +kernel
theorem dX10_hold_28 : decode cX10_hold 28 = .ok (.iadd, 1) := by decide +kernel
theorem dX10_hold_29 : decode cX10_hold 29 = .ok (.putfield 22, 3) := by decide +kernel
theorem dX10_hold_32 : decode cX10_hold 32 = .ok (.return_, 1) := by decide +kernel
theorem dX10_endOne_0 : decode cX10_endOne 0 = .ok (.aload_n 0, 1) := by decide +kernel
theorem dX10_endOne_1 : decode cX10_endOne 1 = .ok (.bipush 10, 2) := by decide +kernel
theorem dX10_endOne_3 : decode cX10_endOne 3 = .ok (.invokevirtual 25, 3) := by decide +kernel
theorem dX10_endOne_6 : decode cX10_endOne 6 = .ok (.return_, 1) := by decide +kernel
theorem dX10_join_0 : decode cX10_join 0 = .ok (.aload_n 0, 1) := by decide +kernel
theorem dX10_join_1 : decode cX10_join 1 = .ok (.bipush 9, 2) := by decide +kernel
theorem dX10_join_3 : decode cX10_join 3 = .ok (.invokevirtual 25, 3) := by decide +kernel
theorem dX10_join_6 : decode cX10_join 6 = .ok (.aload_n 0, 1) := by decide +kernel
theorem dX10_join_7 : decode cX10_join 7 = .ok (.iload_n 1, 1) := by decide +kernel
theorem dX10_join_8 : decode cX10_join 8 = .ok (.invokevirtual 29, 3) := by decide +kernel
theorem dX10_join_11 : decode cX10_join 11 = .ok (.return_, 1) := by decide +kernel
theorem dX10_endAny_0 : decode cX10_endAny 0 = .ok (.aload_n 0, 1) := by decide +kernel
theorem dX10_endAny_1 : decode cX10_endAny 1 = .ok (.bipush 9, 2) := by decide +kernel
theorem dX10_endAny_3 : decode cX10_endAny 3 = .ok (.invokevirtual 25, 3) := by decide +kernel
theorem dX10_endAny_6 : decode cX10_endAny 6 = .ok (.aload_n 0, 1) := by decide +kernel
theorem dX10_endAny_7 : decode cX10_endAny 7 = .ok (.bipush 8, 2) := by decide +kernel
theorem dX10_endAny_9 : decode cX10_endAny 9 = .ok (.invokevirtual 25, 3) := by decide +kernel
theorem dX10_endAny_12 : decode cX10_endAny 12 = .ok (.return_, 1) := by decide +kernel
theorem dX10_closeBracket_0 : decode cX10_closeBracket 0 = .ok (.aload_n 0, 1) := by decide +kernel
theorem dX10_closeBracket_1 : decode cX10_closeBracket 1 = .ok (.bipush 9, 2) := by decide +kernel
theorem dX10_closeBracket_3 : decode cX10_closeBracket 3 = .ok (.invokevirtual 25, 3) := by decide +kernel
theorem dX10_closeBracket_6 : decode cX10_closeBracket 6 = .ok (.aload_n 0, 1) := by decide +kernel
theorem dX10_closeBracket_7 : decode cX10_closeBracket 7 = .ok (.bipush 8, 2) := by decide +kernel
theorem dX10_closeBracket_9 : decode cX10_closeBracket 9 = .ok (.invokevirtual 25, 3) := by decide +kernel
theorem dX10_closeBracket_12 : decode cX10_closeBracket 12 = .ok (.aload_n 0, 1) := by decide +kernel
theorem dX10_closeBracket_13 : decode cX10_closeBracket 13 = .ok (.getfield 22, 3) := by decide +kernel
theorem dX10_closeBracket_16 : decode cX10_closeBracket 16 = .ok (.ifCond .le 13, 3) := by decide +kernel
theorem dX10_closeBracket_19 : decode cX10_closeBracket 19 = .ok (.aload_n 0, 1) := by decide +kernel
theorem dX10_closeBracket_20 : decode cX10_closeBracket 20 = .ok (.dup, 1) := by decide +kernel
theorem dX10_closeBracket_21 : decode cX10_closeBracket 21 = .ok (.getfield 22, 3) := by decide +kernel
theorem dX10_closeBracket_24 : decode cX10_closeBracket 24 = .ok (.iconst 1, 1) := by decide +kernel
theorem dX10_closeBracket_25 : decode cX10_closeBracket 25 = .ok (.isub, 1) := by decide +kernel
theorem dX10_closeBracket_26 : decode cX10_closeBracket 26 = .ok (.putfield 22, 3) := by decide +kernel
theorem dX10_closeBracket_29 : decode cX10_closeBracket 29 = .ok (.aload_n 0, 1) := by decide +kernel
theorem dX10_closeBracket_30 : decode cX10_closeBracket 30 = .ok (.bipush 10, 2) := by decide +kernel
theorem dX10_closeBracket_32 : decode cX10_closeBracket 32 = .ok (.invokevirtual 25, 3) := by decide +kernel
theorem dX10_closeBracket_35 : decode cX10_closeBracket 35 = .ok (.return_, 1) := by decide +kernel
theorem dX10_release_0 : decode cX10_release 0 = .ok (.aload_n 0, 1) := by decide +kernel
theorem dX10_release_1 : decode cX10_release 1 = .ok (.getfield 22, 3) := by decide +kernel
theorem dX10_release_4 : decode cX10_release 4 = .ok (.ifCond .le 36, 3) := by decide +kernel
theorem dX10_release_7 : decode cX10_release 7 = .ok (.aload_n 0, 1) := by decide +kernel
theorem dX10_release_8 : decode cX10_release 8 = .ok (.getfield 15, 3) := by decide +kernel
theorem dX10_release_11 : decode cX10_release 11 = .ok (.aload_n 0, 1) := by decide +kernel
theorem dX10_release_12 : decode cX10_release 12 = .ok (.getfield 22, 3) := by decide +kernel
theorem dX10_release_15 : decode cX10_release 15 = .ok (.iconst 1, 1) := by decide +kernel
theorem dX10_release_16 : decode cX10_release 16 = .ok (.isub, 1) := by decide +kernel
theorem dX10_release_17 : decode cX10_release 17 = .ok (.iaload, 1) := by decide +kernel
theorem dX10_release_18 : decode cX10_release 18 = .ok (.iload_n 1, 1) := by decide +kernel
theorem dX10_release_19 : decode cX10_release 19 = .ok (.if_icmp .ne 21, 3) := by decide +kernel
theorem dX10_release_22 : decode cX10_release 22 = .ok (.aload_n 0, 1) := by decide +kernel
theorem dX10_release_23 : decode cX10_release 23 = .ok (.dup, 1) := by decide +kernel
theorem dX10_release_24 : decode cX10_release 24 = .ok (.getfield 22, 3) := by decide +kernel
theorem dX10_release_27 : decode cX10_release 27 = .ok (.iconst 1, 1) := by decide +kernel
theorem dX10_release_28 : decode cX10_release 28 = .ok (.isub, 1) := by decide +kernel
theorem dX10_release_29 : decode cX10_release 29 = .ok (.putfield 22, 3) := by decide +kernel
theorem dX10_release_32 : decode cX10_release 32 = .ok (.aload_n 0, 1) := by decide +kernel
theorem dX10_release_33 : decode cX10_release 33 = .ok (.iload_n 1, 1) := by decide +kernel
theorem dX10_release_34 : decode cX10_release 34 = .ok (.invokevirtual 32, 3) := by decide +kernel
theorem dX10_release_37 : decode cX10_release 37 = .ok (.goto (-37), 3) := by decide +kernel
theorem dX10_release_40 : decode cX10_release 40 = .ok (.return_, 1) := by decide +kernel
theorem dX11_init_0 : decode cX11_init 0 = .ok (.aload_n 0, 1) := by decide +kernel
theorem dX11_init_1 : decode cX11_init 1 = .ok (.invokespecial 3, 3) := by decide +kernel
theorem dX11_init_4 : decode cX11_init 4 = .ok (.aload_n 0, 1) := by decide +kernel
theorem dX11_init_5 : decode cX11_init 5 = .ok (.new 9, 3) := by decide +kernel
theorem dX11_init_8 : decode cX11_init 8 = .ok (.dup, 1) := by decide +kernel
theorem dX11_init_9 : decode cX11_init 9 = .ok (.invokespecial 11, 3) := by decide +kernel
theorem dX11_init_12 : decode cX11_init 12 = .ok (.putfield 12, 3) := by decide +kernel
theorem dX11_init_15 : decode cX11_init 15 = .ok (.aload_n 0, 1) := by decide +kernel
theorem dX11_init_16 : decode cX11_init 16 = .ok (.new 18, 3) := by decide +kernel
theorem dX11_init_19 : decode cX11_init 19 = .ok (.dup, 1) := by decide +kernel
theorem dX11_init_20 : decode cX11_init 20 = .ok (.aload_n 0, 1) := by decide +kernel
theorem dX11_init_21 : decode cX11_init 21 = .ok (.getfield 12, 3) := by decide +kernel
theorem dX11_init_24 : decode cX11_init 24 = .ok (.invokespecial 20, 3) := by decide +kernel
theorem dX11_init_27 : decode cX11_init 27 = .ok (.putfield 23, 3) := by decide +kernel
theorem dX11_init_30 : decode cX11_init 30 = .ok (.aload_n 0, 1) := by decide +kernel
theorem dX11_init_31 : decode cX11_init 31 = .ok (.new 27, 3) := by decide +kernel
theorem dX11_init_34 : decode cX11_init 34 = .ok (.dup, 1) := by decide +kernel
theorem dX11_init_35 : decode cX11_init 35 = .ok (.invokespecial 29, 3) := by decide +kernel
theorem dX11_init_38 : decode cX11_init 38 = .ok (.putfield 30, 3) := by decide +kernel
theorem dX11_init_41 : decode cX11_init 41 = .ok (.aload_n 0, 1) := by decide +kernel
theorem dX11_init_42 : decode cX11_init 42 = .ok (.new 34, 3) := by decide +kernel
theorem dX11_init_45 : decode cX11_init 45 = .ok (.dup, 1) := by decide +kernel
theorem dX11_init_46 : decode cX11_init 46 = .ok (.invokespecial 36, 3) := by decide +kernel
theorem dX11_init_49 : decode cX11_init 49 = .ok (.putfield 37, 3) := by decide +kernel
theorem dX11_init_52 : decode cX11_init 52 = .ok (.aload_n 0, 1) := by decide +kernel
theorem dX11_init_53 : decode cX11_init 53 = .ok (.new 27, 3) := by decide +kernel
theorem dX11_init_56 : decode cX11_init 56 = .ok (.dup, 1) := by decide +kernel
theorem dX11_init_57 : decode cX11_init 57 = .ok (.invokespecial 29, 3) := by decide +kernel
theorem dX11_init_60 : decode cX11_init 60 = .ok (.putfield 41, 3) := by decide +kernel
theorem dX11_init_63 : decode cX11_init 63 = .ok (.aload_n 0, 1) := by decide +kernel
theorem dX11_init_64 : decode cX11_init 64 = .ok (.new 27, 3) := by decide +kernel
theorem dX11_init_67 : decode cX11_init 67 = .ok (.dup, 1) := by decide +kernel
theorem dX11_init_68 : decode cX11_init 68 = .ok (.invokespecial 29, 3) := by decide +kernel
theorem dX11_init_71 : decode cX11_init 71 = .ok (.putfield 44, 3) := by decide +kernel
theorem dX11_init_74 : decode cX11_init 74 = .ok (.aload_n 0, 1) := by decide +kernel
theorem dX11_init_75 : decode cX11_init 75 = .ok (.new 27, 3) := by decide +kernel
theorem dX11_init_78 : decode cX11_init 78 = .ok (.dup, 1) := by decide +kernel
theorem dX11_init_79 : decode cX11_init 79 = .ok (.invokespecial 29, 3) := by decide +kernel
theorem dX11_init_82 : decode cX11_init 82 = .ok (.putfield 47, 3) := by decide +kernel
theorem dX11_init_85 : decode cX11_init 85 = .ok (.aload_n 0, 1) := by decide +kernel
theorem dX11_init_86 : decode cX11_init 86 = .ok (.new 50, 3) := by decide +kernel
theorem dX11_init_89 : decode cX11_init 89 = .ok (.dup, 1) := by decide +kernel
theorem dX11_init_90 : decode cX11_init 90 = .ok (.invokespecial 52, 3) := by decide +kernel
theorem dX11_init_93 : decode cX11_init 93 = .ok (.putfield 53, 3) := by decide +kernel
theorem dX11_init_96 : decode cX11_init 96 = .ok (.aload_n 0, 1) := by decide +kernel
theorem dX11_init_97 : decode cX11_init 97 = .ok (.new 27, 3) := by decide +kernel
theorem dX11_init_100 : decode cX11_init 100 = .ok (.dup, 1) := by decide +kernel
theorem dX11_init_101 : decode cX11_init 101 = .ok (.invokespecial 29, 3) := by decide +kernel
theorem dX11_init_104 : decode cX11_init 104 = .ok (.putfield 57, 3) := by decide +kernel
theorem dX11_init_107 : decode cX11_init 107 = .ok (.aload_n 0, 1) := by decide +kernel
theorem dX11_init_108 : decode cX11_init 108 = .ok (.new 60, 3) := by decide +kernel
theorem dX11_init_111 : decode cX11_init 111 = .ok (.dup, 1) := by decide +kernel
theorem dX11_init_112 : decode cX11_init 112 = .ok (.invokespecial 62, 3) := by decide +kernel
theorem dX11_init_115 : decode cX11_init 115 = .ok (.putfield 63, 3) := by decide +kernel
theorem dX11_init_118 : decode cX11_init 118 = .ok (.aload_n 0, 1) := by decide +kernel
theorem dX11_init_119 : decode cX11_init 119 = .ok (.bipush 10, 2) := by decide +kernel
theorem dX11_init_121 : decode cX11_init 121 = .ok (.putfield 67, 3) := by decide +kernel
theorem dX11_init_124 : decode cX11_init 124 = .ok (.return_, 1) := by decide +kernel
theorem dX11_will_0 : decode cX11_will 0 = .ok (.aload_n 0, 1) := by decide +kernel
theorem dX11_will_1 : decode cX11_will 1 = .ok (.getfield 71, 3) := by decide +kernel
theorem dX11_will_4 : decode cX11_will 4 = .ok (.iconst 4, 1) := by decide +kernel
theorem dX11_will_5 : decode cX11_will 5 = .ok (.if_icmp .lt 9, 3) := by decide +kernel
theorem dX11_will_8 : decode cX11_will 8 = .ok (.aload_n 0, 1) := by decide +kernel
theorem dX11_will_9 : decode cX11_will 9 = .ok (.iconst 3, 1) := by decide +kernel
theorem dX11_will_10 : decode cX11_will 10 = .ok (.invokevirtual 74, 3) := by decide +kernel
theorem dX11_will_13 : decode cX11_will 13 = .ok (.ireturn, 1) := by decide +kernel
theorem dX11_will_14 : decode cX11_will 14 = .ok (.aload_n 0, 1) := by decide +kernel
theorem dX11_will_15 : decode cX11_will 15 = .ok (.dup, 1) := by decide +kernel
theorem dX11_will_16 : decode cX11_will 16 = .ok (.getfield 71, 3) := by decide +kernel
theorem dX11_will_19 : decode cX11_will 19 = .ok (.iconst 1, 1) := by decide +kernel
theorem dX11_will_20 : decode cX11_will 20 = .ok (.iadd, 1) := by decide +kernel
theorem dX11_will_21 : decode cX11_will 21 = .ok (.putfield 71, 3) := by decide +kernel
theorem dX11_will_24 : decode cX11_will 24 = .ok (.aload_n 0, 1) := by decide +kernel
theorem dX11_will_25 : decode cX11_will 25 = .ok (.aload_n 0, 1) := by decide +kernel
theorem dX11_will_26 : decode cX11_will 26 = .ok (.getfield 71, 3) := by decide +kernel
theorem dX11_will_29 : decode cX11_will 29 = .ok (.iconst 1, 1) := by decide +kernel
theorem dX11_will_30 : decode cX11_will 30 = .ok (.isub, 1) := by decide +kernel
theorem dX11_will_31 : decode cX11_will 31 = .ok (.invokevirtual 78, 3) := by decide +kernel
theorem dX11_will_34 : decode cX11_will 34 = .ok (.ireturn, 1) := by decide +kernel
theorem dX11_feed_0 : decode cX11_feed 0 = .ok (.aload_n 0, 1) := by decide +kernel
theorem dX11_feed_1 : decode cX11_feed 1 = .ok (.getfield 12, 3) := by decide +kernel
theorem dX11_feed_4 : decode cX11_feed 4 = .ok (.getfield 81, 3) := by decide +kernel
theorem dX11_feed_7 : decode cX11_feed 7 = .ok (.bipush 20, 2) := by decide +kernel
theorem dX11_feed_9 : decode cX11_feed 9 = .ok (.iadd, 1) := by decide +kernel
theorem dX11_feed_10 : decode cX11_feed 10 = .ok (.sipush 300, 3) := by decide +kernel
theorem dX11_feed_13 : decode cX11_feed 13 = .ok (.if_icmp .le 5, 3) := by decide +kernel
theorem dX11_feed_16 : decode cX11_feed 16 = .ok (.iconst (-1), 1) := by decide +kernel
theorem dX11_feed_17 : decode cX11_feed 17 = .ok (.ireturn, 1) := by decide +kernel
theorem dX11_feed_18 : decode cX11_feed 18 = .ok (.aload_n 0, 1) := by decide +kernel
theorem dX11_feed_19 : decode cX11_feed 19 = .ok (.getfield 12, 3) := by decide +kernel
theorem dX11_feed_22 : decode cX11_feed 22 = .ok (.iload_n 1, 1) := by decide +kernel
theorem dX11_feed_23 : decode cX11_feed 23 = .ok (.invokevirtual 84, 3) := by decide +kernel
theorem dX11_feed_26 : decode cX11_feed 26 = .ok (.aload_n 0, 1) := by decide +kernel
theorem dX11_feed_27 : decode cX11_feed 27 = .ok (.getfield 12, 3) := by decide +kernel
theorem dX11_feed_30 : decode cX11_feed 30 = .ok (.iload_n 2, 1) := by decide +kernel
theorem dX11_feed_31 : decode cX11_feed 31 = .ok (.invokevirtual 84, 3) := by decide +kernel
theorem dX11_feed_34 : decode cX11_feed 34 = .ok (.aload_n 0, 1) := by decide +kernel
theorem dX11_feed_35 : decode cX11_feed 35 = .ok (.getfield 12, 3) := by decide +kernel
theorem dX11_feed_38 : decode cX11_feed 38 = .ok (.iload_n 3, 1) := by decide +kernel
theorem dX11_feed_39 : decode cX11_feed 39 = .ok (.invokevirtual 84, 3) := by decide +kernel
theorem dX11_feed_42 : decode cX11_feed 42 = .ok (.aload_n 0, 1) := by decide +kernel
theorem dX11_feed_43 : decode cX11_feed 43 = .ok (.getfield 12, 3) := by decide +kernel
theorem dX11_feed_46 : decode cX11_feed 46 = .ok (.iload 4, 2) := by decide +kernel
theorem dX11_feed_48 : decode cX11_feed 48 = .ok (.invokevirtual 84, 3) := by decide +kernel
theorem dX11_feed_51 : decode cX11_feed 51 = .ok (.aload_n 0, 1) := by decide +kernel
theorem dX11_feed_52 : decode cX11_feed 52 = .ok (.getfield 12, 3) := by decide +kernel
theorem dX11_feed_55 : decode cX11_feed 55 = .ok (.iload 5, 2) := by decide +kernel
theorem dX11_feed_57 : decode cX11_feed 57 = .ok (.invokevirtual 84, 3) := by decide +kernel
theorem dX11_feed_60 : decode cX11_feed 60 = .ok (.aload_n 0, 1) := by decide +kernel
theorem dX11_feed_61 : decode cX11_feed 61 = .ok (.getfield 12, 3) := by decide +kernel
theorem dX11_feed_64 : decode cX11_feed 64 = .ok (.getfield 81, 3) := by decide +kernel
theorem dX11_feed_67 : decode cX11_feed 67 = .ok (.ireturn, 1) := by decide +kernel
theorem dX11_scheme_0 : decode cX11_scheme 0 = .ok (.aload_n 0, 1) := by decide +kernel
theorem dX11_scheme_1 : decode cX11_scheme 1 = .ok (.iload_n 1, 1) := by decide +kernel
theorem dX11_scheme_2 : decode cX11_scheme 2 = .ok (.invokevirtual 88, 3) := by decide +kernel
theorem dX11_scheme_5 : decode cX11_scheme 5 = .ok (.ifCond .ne 9, 3) := by decide +kernel
theorem dX11_scheme_8 : decode cX11_scheme 8 = .ok (.aload_n 0, 1) := by decide +kernel
theorem dX11_scheme_9 : decode cX11_scheme 9 = .ok (.iconst 1, 1) := by decide +kernel
theorem dX11_scheme_10 : decode cX11_scheme 10 = .ok (.invokevirtual 74, 3) := by decide +kernel
theorem dX11_scheme_13 : decode cX11_scheme 13 = .ok (.ireturn, 1) := by decide +kernel
theorem dX11_scheme_14 : decode cX11_scheme 14 = .ok (.iload_n 2, 1) := by decide +kernel
theorem dX11_scheme_15 : decode cX11_scheme 15 = .ok (.invokestatic 92, 3) := by decide +kernel
theorem dX11_scheme_18 : decode cX11_scheme 18 = .ok (.ifCond .eq 18, 3) := by decide +kernel
theorem dX11_scheme_21 : decode cX11_scheme 21 = .ok (.iload_n 3, 1) := by decide +kernel
theorem dX11_scheme_22 : decode cX11_scheme 22 = .ok (.ifCond .lt 14, 3) := by decide +kernel
theorem dX11_scheme_25 : decode cX11_scheme 25 = .ok (.iload_n 3, 1) := by decide +kernel
theorem dX11_scheme_26 : decode cX11_scheme 26 = .ok (.aload_n 0, 1) := by decide +kernel
theorem dX11_scheme_27 : decode cX11_scheme 27 = .ok (.getfield 12, 3) := by decide +kernel
theorem dX11_scheme_30 : decode cX11_scheme 30 = .ok (.getfield 81, 3) := by decide +kernel
theorem dX11_scheme_33 : decode cX11_scheme 33 = .ok (.if_icmp .le 9, 3) := by decide +kernel
theorem dX11_scheme_36 : decode cX11_scheme 36 = .ok (.aload_n 0, 1) := by decide +kernel
theorem dX11_scheme_37 : decode cX11_scheme 37 = .ok (.iconst 2, 1) := by decide +kernel
theorem dX11_scheme_38 : decode cX11_scheme 38 = .ok (.invokevirtual 74, 3) := by decide +kernel
theorem dX11_scheme_41 : decode cX11_scheme 41 = .ok (.ireturn, 1) := by decide +kernel
theorem dX11_scheme_42 : decode cX11_scheme 42 = .ok (.aload_n 0, 1) := by decide +kernel
theorem dX11_scheme_43 : decode cX11_scheme 43 = .ok (.aload_n 0, 1) := by decide +kernel
theorem dX11_scheme_44 : decode cX11_scheme 44 = .ok (.getfield 23, 3) := by decide +kernel
theorem dX11_scheme_47 : decode cX11_scheme 47 = .ok (.iload_n 3, 1) := by decide +kernel
theorem dX11_scheme_48 : decode cX11_scheme 48 = .ok (.invokevirtual 95, 3) := by decide +kernel
theorem dX11_scheme_51 : decode cX11_scheme 51 = .ok (.putfield 98, 3) := by decide +kernel
theorem dX11_scheme_54 : decode cX11_scheme 54 = .ok (.aload_n 0, 1) := by decide +kernel
theorem dX11_scheme_55 : decode cX11_scheme 55 = .ok (.aload_n 0, 1) := by decide +kernel
theorem dX11_scheme_56 : decode cX11_scheme 56 = .ok (.getfield 12, 3) := by decide +kernel
theorem dX11_scheme_59 : decode cX11_scheme 59 = .ok (.getfield 101, 3) := by decide +kernel
theorem dX11_scheme_62 : decode cX11_scheme 62 = .ok (.putfield 104, 3) := by decide +kernel
theorem dX11_scheme_65 : decode cX11_scheme 65 = .ok (.aload_n 0, 1) := by decide +kernel
theorem dX11_scheme_66 : decode cX11_scheme 66 = .ok (.getfield 12, 3) := by decide +kernel
theorem dX11_scheme_69 : decode cX11_scheme 69 = .ok (.iconst 0, 1) := by decide +kernel
theorem dX11_scheme_70 : decode cX11_scheme 70 = .ok (.putfield 81, 3) := by decide +kernel
theorem dX11_scheme_73 : decode cX11_scheme 73 = .ok (.aload_n 0, 1) := by decide +kernel
theorem dX11_scheme_74 : decode cX11_scheme 74 = .ok (.getfield 98, 3) := by decide +kernel
theorem dX11_scheme_77 : decode cX11_scheme 77 = .ok (.ifCond .eq 9, 3) := by decide +kernel
theorem dX11_scheme_80 : decode cX11_scheme 80 = .ok (.aload_n 0, 1) := by decide +kernel
theorem dX11_scheme_81 : decode cX11_scheme 81 = .ok (.iconst 4, 1) := by decide +kernel
theorem dX11_scheme_82 : decode cX11_scheme 82 = .ok (.invokevirtual 74, 3) := by decide +kernel
theorem dX11_scheme_85 : decode cX11_scheme 85 = .ok (.ireturn, 1) := by decide +kernel
theorem dX11_scheme_86 : decode cX11_scheme 86 = .ok (.aload_n 0, 1) := by decide +kernel
theorem dX11_scheme_87 : decode cX11_scheme 87 = .ok (.getfield 107, 3) := by decide +kernel
theorem dX11_scheme_90 : decode cX11_scheme 90 = .ok (.bipush 40, 2) := by decide +kernel
theorem dX11_scheme_92 : decode cX11_scheme 92 = .ok (.if_icmp .lt 9, 3) := by decide +kernel
theorem dX11_scheme_95 : decode cX11_scheme 95 = .ok (.aload_n 0, 1) := by decide +kernel
theorem dX11_scheme_96 : decode cX11_scheme 96 = .ok (.iconst 3, 1) := by decide +kernel
theorem dX11_scheme_97 : decode cX11_scheme 97 = .ok (.invokevirtual 74, 3) := by decide +kernel
theorem dX11_scheme_100 : decode cX11_scheme 100 = .ok (.ireturn, 1) := by decide +kernel
theorem dX11_scheme_101 : decode cX11_scheme 101 = .ok (.aload_n 0, 1) := by decide +kernel
theorem dX11_scheme_102 : decode cX11_scheme 102 = .ok (.iload_n 1, 1) := by decide +kernel
theorem dX11_scheme_103 : decode cX11_scheme 103 = .ok (.iload_n 2, 1) := by decide +kernel
theorem dX11_scheme_104 : decode cX11_scheme 104 = .ok (.invokevirtual 110, 3) := by decide +kernel
theorem dX11_scheme_107 : decode cX11_scheme 107 = .ok (.aload_n 0, 1) := by decide +kernel
theorem dX11_scheme_108 : decode cX11_scheme 108 = .ok (.dup, 1) := by decide +kernel
theorem dX11_scheme_109 : decode cX11_scheme 109 = .ok (.getfield 107, 3) := by decide +kernel
theorem dX11_scheme_112 : decode cX11_scheme 112 = .ok (.iconst 1, 1) := by decide +kernel
theorem dX11_scheme_113 : decode cX11_scheme 113 = .ok (.iadd, 1) := by decide +kernel
theorem dX11_scheme_114 : decode cX11_scheme 114 = .ok (.putfield 107, 3) := by decide +kernel
theorem dX11_scheme_117 : decode cX11_scheme 117 = .ok (.aload_n 0, 1) := by decide +kernel
theorem dX11_scheme_118 : decode cX11_scheme 118 = .ok (.aload_n 0, 1) := by decide +kernel
theorem dX11_scheme_119 : decode cX11_scheme 119 = .ok (.getfield 107, 3) := by decide +kernel
theorem dX11_scheme_122 : decode cX11_scheme 122 = .ok (.iconst 1, 1) := by decide +kernel
theorem dX11_scheme_123 : decode cX11_scheme 123 = .ok (.isub, 1) := by decide +kernel
theorem dX11_scheme_124 : decode cX11_scheme 124 = .ok (.invokevirtual 78, 3) := by decide +kernel
theorem dX11_scheme_127 : decode cX11_scheme 127 = .ok (.ireturn, 1) := by decide +kernel
theorem dX11_fault_0 : decode cX11_fault 0 = .ok (.aload_n 0, 1) := by decide +kernel
theorem dX11_fault_1 : decode cX11_fault 1 = .ok (.getfield 98, 3) := by decide +kernel
theorem dX11_fault_4 : decode cX11_fault 4 = .ok (.ireturn, 1) := by decide +kernel
theorem dX11_where_0 : decode cX11_where 0 = .ok (.aload_n 0, 1) := by decide +kernel
theorem dX11_where_1 : decode cX11_where 1 = .ok (.getfield 114, 3) := by decide +kernel
theorem dX11_where_4 : decode cX11_where 4 = .ok (.iconst 4, 1) := by decide +kernel
theorem dX11_where_5 : decode cX11_where 5 = .ok (.if_icmp .ne 10, 3) := by decide +kernel
theorem dX11_where_8 : decode cX11_where 8 = .ok (.aload_n 0, 1) := by decide +kernel
theorem dX11_where_9 : decode cX11_where 9 = .ok (.getfield 104, 3) := by decide +kernel
theorem dX11_where_12 : decode cX11_where 12 = .ok (.goto 4, 3) := by decide +kernel
theorem dX11_where_15 : decode cX11_where 15 = .ok (.iconst (-1), 1) := by decide +kernel
theorem dX11_where_16 : decode cX11_where 16 = .ok (.ireturn, 1) := by decide +kernel
theorem dX11_clause_0 : decode cX11_clause 0 = .ok (.aload_n 0, 1) := by decide +kernel
theorem dX11_clause_1 : decode cX11_clause 1 = .ok (.iload_n 1, 1) := by decide +kernel
theorem dX11_clause_2 : decode cX11_clause 2 = .ok (.invokevirtual 88, 3) := by decide +kernel
theorem dX11_clause_5 : decode cX11_clause 5 = .ok (.ifCond .eq 21, 3) := by decide +kernel
theorem dX11_clause_8 : decode cX11_clause 8 = .ok (.iload_n 2, 1) := by decide +kernel
theorem dX11_clause_9 : decode cX11_clause 9 = .ok (.iconst 1, 1) := by decide +kernel
theorem dX11_clause_10 : decode cX11_clause 10 = .ok (.if_icmp .lt 16, 3) := by decide +kernel
theorem dX11_clause_13 : decode cX11_clause 13 = .ok (.iload_n 2, 1) := by decide +kernel
theorem dX11_clause_14 : decode cX11_clause 14 = .ok (.bipush 12, 2) := by decide +kernel
theorem dX11_clause_16 : decode cX11_clause 16 = .ok (.if_icmp .gt 10, 3) := by decide +kernel
theorem dX11_clause_19 : decode cX11_clause 19 = .ok (.iload_n 3, 1) := by decide +kernel
theorem dX11_clause_20 : decode cX11_clause 20 = .ok (.invokestatic 92, 3) := by decide +kernel
theorem dX11_clause_23 : decode cX11_clause 23 = .ok (.ifCond .ne 5, 3) := by decide +kernel
theorem dX11_clause_26 : decode cX11_clause 26 = .ok (.iconst (-1), 1) := by decide +kernel
theorem dX11_clause_27 : decode cX11_clause 27 = .ok (.ireturn, 1) := by decide +kernel
theorem dX11_clause_28 : decode cX11_clause 28 = .ok (.aload_n 0, 1) := by decide +kernel
theorem dX11_clause_29 : decode cX11_clause 29 = .ok (.getfield 37, 3) := by decide +kernel
theorem dX11_clause_32 : decode cX11_clause 32 = .ok (.aload_n 0, 1) := by decide +kernel
theorem dX11_clause_33 : decode cX11_clause 33 = .ok (.getfield 30, 3) := by decide +kernel
theorem dX11_clause_36 : decode cX11_clause 36 = .ok (.iload_n 1, 1) := by decide +kernel
theorem dX11_clause_37 : decode cX11_clause 37 = .ok (.iload_n 3, 1) := by decide +kernel
theorem dX11_clause_38 : decode cX11_clause 38 = .ok (.invokevirtual 117, 3) := by decide +kernel
theorem dX11_clause_41 : decode cX11_clause 41 = .ok (.aload_n 0, 1) := by decide +kernel
theorem dX11_clause_42 : decode cX11_clause 42 = .ok (.getfield 37, 3) := by decide +kernel
theorem dX11_clause_45 : decode cX11_clause 45 = .ok (.iload_n 2, 1) := by decide +kernel
theorem dX11_clause_46 : decode cX11_clause 46 = .ok (.invokevirtual 121, 3) := by decide +kernel
theorem dX11_clause_49 : decode cX11_clause 49 = .ok (.astore 4, 2) := by decide +kernel
theorem dX11_clause_51 : decode cX11_clause 51 = .ok (.aload 4, 2) := by decide +kernel
theorem dX11_clause_53 : decode cX11_clause 53 = .ok (.ifnonnull 8, 3) := by decide +kernel
theorem dX11_clause_56 : decode cX11_clause 56 = .ok (.bipush (-2), 2) := by decide +kernel
theorem dX11_clause_58 : decode cX11_clause 58 = .ok (.goto 8, 3) := by decide +kernel
theorem dX11_clause_61 : decode cX11_clause 61 = .ok (.aload 4, 2) := by decide +kernel
theorem dX11_clause_63 : decode cX11_clause 63 = .ok (.getfield 125, 3) := by decide +kernel
theorem dX11_clause_66 : decode cX11_clause 66 = .ok (.ireturn, 1) := by decide +kernel
theorem dX11_clauses_0 : decode cX11_clauses 0 = .ok (.aload_n 0, 1) := by decide +kernel
theorem dX11_clauses_1 : decode cX11_clauses 1 = .ok (.iload_n 1, 1) := by decide +kernel
theorem dX11_clauses_2 : decode cX11_clauses 2 = .ok (.invokevirtual 88, 3) := by decide +kernel
theorem dX11_clauses_5 : decode cX11_clauses 5 = .ok (.ifCond .eq 10, 3) := by decide +kernel
theorem dX11_clauses_8 : decode cX11_clauses 8 = .ok (.iload_n 2, 1) := by decide +kernel
theorem dX11_clauses_9 : decode cX11_clauses 9 = .ok (.invokestatic 92, 3) := by decide +kernel
theorem dX11_clauses_12 : decode cX11_clauses 12 = .ok (.ifCond .ne 5, 3) := by decide +kernel
theorem dX11_clauses_15 : decode cX11_clauses 15 = .ok (.iconst (-1), 1) := by decide +kernel
theorem dX11_clauses_16 : decode cX11_clauses 16 = .ok (.ireturn, 1) := by decide +kernel
theorem dX11_clauses_17 : decode cX11_clauses 17 = .ok (.aload_n 0, 1) := by decide +kernel
theorem dX11_clauses_18 : decode cX11_clauses 18 = .ok (.getfield 37, 3) := by decide +kernel
theorem dX11_clauses_21 : decode cX11_clauses 21 = .ok (.aload_n 0, 1) := by decide +kernel
theorem dX11_clauses_22 : decode cX11_clauses 22 = .ok (.getfield 30, 3) := by decide +kernel
theorem dX11_clauses_25 : decode cX11_clauses 25 = .ok (.iload_n 1, 1) := by decide +kernel
theorem dX11_clauses_26 : decode cX11_clauses 26 = .ok (.iload_n 2, 1) := by decide +kernel
theorem dX11_clauses_27 : decode cX11_clauses 27 = .ok (.invokevirtual 117, 3) := by decide +kernel
theorem dX11_clauses_30 : decode cX11_clauses 30 = .ok (.aload_n 0, 1) := by decide +kernel
theorem dX11_clauses_31 : decode cX11_clauses 31 = .ok (.getfield 37, 3) := by decide +kernel
theorem dX11_clauses_34 : decode cX11_clauses 34 = .ok (.invokevirtual 130, 3) := by decide +kernel
theorem dX11_clauses_37 : decode cX11_clauses 37 = .ok (.ireturn, 1) := by decide +kernel
theorem dX11_person_0 : decode cX11_person 0 = .ok (.iload_n 1, 1) := by decide +kernel
theorem dX11_person_1 : decode cX11_person 1 = .ok (.ldc 134, 2) := by decide +kernel
theorem dX11_person_3 : decode cX11_person 3 = .ok (.if_icmp .lt 24, 3) := by decide +kernel
theorem dX11_person_6 : decode cX11_person 6 = .ok (.iload_n 1, 1) := by decide +kernel
theorem dX11_person_7 : decode cX11_person 7 = .ok (.aload_n 0, 1) := by decide +kernel
theorem dX11_person_8 : decode cX11_person 8 = .ok (.getfield 135, 3) := by decide +kernel
theorem dX11_person_11 : decode cX11_person 11 = .ok (.if_icmp .gt 16, 3) := by decide +kernel
theorem dX11_person_14 : decode cX11_person 14 = .ok (.iload_n 2, 1) := by decide +kernel
theorem dX11_person_15 : decode cX11_person 15 = .ok (.iload_n 1, 1) := by decide +kernel
theorem dX11_person_16 : decode cX11_person 16 = .ok (.if_icmp .lt 11, 3) := by decide +kernel
theorem dX11_person_19 : decode cX11_person 19 = .ok (.iload_n 2, 1) := by decide +kernel
theorem dX11_person_20 : decode cX11_person 20 = .ok (.aload_n 0, 1) := by decide +kernel
theorem dX11_person_21 : decode cX11_person 21 = .ok (.getfield 135, 3) := by decide +kernel
theorem dX11_person_24 : decode cX11_person 24 = .ok (.if_icmp .le 9, 3) := by decide +kernel
theorem dX11_person_27 : decode cX11_person 27 = .ok (.aload_n 0, 1) := by decide +kernel
theorem dX11_person_28 : decode cX11_person 28 = .ok (.iconst 2, 1) := by decide +kernel
theorem dX11_person_29 : decode cX11_person 29 = .ok (.invokevirtual 74, 3) := by decide +kernel
theorem dX11_person_32 : decode cX11_person 32 = .ok (.ireturn, 1) := by decide +kernel
theorem dX11_person_33 : decode cX11_person 33 = .ok (.aload_n 0, 1) := by decide +kernel
theorem dX11_person_34 : decode cX11_person 34 = .ok (.getfield 41, 3) := by decide +kernel
theorem dX11_person_37 : decode cX11_person 37 = .ok (.invokevirtual 138, 3) := by decide +kernel
theorem dX11_person_40 : decode cX11_person 40 = .ok (.bipush 40, 2) := by decide +kernel
theorem dX11_person_42 : decode cX11_person 42 = .ok (.if_icmp .lt 9, 3) := by decide +kernel
theorem dX11_person_45 : decode cX11_person 45 = .ok (.aload_n 0, 1) := by decide +kernel
theorem dX11_person_46 : decode cX11_person 46 = .ok (.iconst 3, 1) := by decide +kernel
theorem dX11_person_47 : decode cX11_person 47 = .ok (.invokevirtual 74, 3) := by decide +kernel
theorem dX11_person_50 : decode cX11_person 50 = .ok (.ireturn, 1) := by decide +kernel
theorem dX11_person_51 : decode cX11_person 51 = .ok (.aload_n 0, 1) := by decide +kernel
theorem dX11_person_52 : decode cX11_person 52 = .ok (.getfield 41, 3) := by decide +kernel
theorem dX11_person_55 : decode cX11_person 55 = .ok (.new 141, 3) := by decide +kernel
theorem dX11_person_58 : decode cX11_person 58 = .ok (.dup, 1) := by decide +kernel
theorem dX11_person_59 : decode cX11_person 59 = .ok (.iload_n 1, 1) := by decide +kernel
theorem dX11_person_60 : decode cX11_person 60 = .ok (.iload_n 2, 1) := by decide +kernel
theorem dX11_person_61 : decode cX11_person 61 = .ok (.iload_n 3, 1) := by decide +kernel
theorem dX11_person_62 : decode cX11_person 62 = .ok (.aload_n 0, 1) := by decide +kernel
theorem dX11_person_63 : decode cX11_person 63 = .ok (.getfield 135, 3) := by decide +kernel
theorem dX11_person_66 : decode cX11_person 66 = .ok (.invokespecial 143, 3) := by decide +kernel
theorem dX11_person_69 : decode cX11_person 69 = .ok (.invokevirtual 146, 3) := by decide +kernel
theorem dX11_person_72 : decode cX11_person 72 = .ok (.pop, 1) := by decide +kernel
theorem dX11_person_73 : decode cX11_person 73 = .ok (.aload_n 0, 1) := by decide +kernel
theorem dX11_person_74 : decode cX11_person 74 = .ok (.aload_n 0, 1) := by decide +kernel
theorem dX11_person_75 : decode cX11_person 75 = .ok (.getfield 41, 3) := by decide +kernel
theorem dX11_person_78 : decode cX11_person 78 = .ok (.invokevirtual 138, 3) := by decide +kernel
theorem dX11_person_81 : decode cX11_person 81 = .ok (.iconst 1, 1) := by decide +kernel
theorem dX11_person_82 : decode cX11_person 82 = .ok (.isub, 1) := by decide +kernel
theorem dX11_person_83 : decode cX11_person 83 = .ok (.invokevirtual 78, 3) := by decide +kernel
theorem dX11_person_86 : decode cX11_person 86 = .ok (.ireturn, 1) := by decide +kernel
theorem dX11_means_0 : decode cX11_means 0 = .ok (.aload_n 0, 1) := by decide +kernel
theorem dX11_means_1 : decode cX11_means 1 = .ok (.iload_n 1, 1) := by decide +kernel
theorem dX11_means_2 : decode cX11_means 2 = .ok (.invokevirtual 150, 3) := by decide +kernel
theorem dX11_means_5 : decode cX11_means 5 = .ok (.astore 4, 2) := by decide +kernel
theorem dX11_means_7 : decode cX11_means 7 = .ok (.aload 4, 2) := by decide +kernel
theorem dX11_means_9 : decode cX11_means 9 = .ok (.ifnonnull 9, 3) := by decide +kernel
theorem dX11_means_12 : decode cX11_means 12 = .ok (.aload_n 0, 1) := by decide +kernel
theorem dX11_means_13 : decode cX11_means 13 = .ok (.iconst 1, 1) := by decide +kernel
theorem dX11_means_14 : decode cX11_means 14 = .ok (.invokevirtual 74, 3) := by decide +kernel
theorem dX11_means_17 : decode cX11_means 17 = .ok (.ireturn, 1) := by decide +kernel
theorem dX11_means_18 : decode cX11_means 18 = .ok (.iload_n 2, 1) := by decide +kernel
theorem dX11_means_19 : decode cX11_means 19 = .ok (.invokestatic 92, 3) := by decide +kernel
theorem dX11_means_22 : decode cX11_means 22 = .ok (.ifCond .eq 14, 3) := by decide +kernel
theorem dX11_means_25 : decode cX11_means 25 = .ok (.iload_n 3, 1) := by decide +kernel
theorem dX11_means_26 : decode cX11_means 26 = .ok (.ifCond .lt 10, 3) := by decide +kernel
theorem dX11_means_29 : decode cX11_means 29 = .ok (.iload_n 3, 1) := by decide +kernel
theorem dX11_means_30 : decode cX11_means 30 = .ok (.sipush 9999, 3) := by decide +kernel
theorem dX11_means_33 : decode cX11_means 33 = .ok (.if_icmp .le 9, 3) := by decide +kernel
theorem dX11_means_36 : decode cX11_means 36 = .ok (.aload_n 0, 1) := by decide +kernel
theorem dX11_means_37 : decode cX11_means 37 = .ok (.iconst 2, 1) := by decide +kernel
theorem dX11_means_38 : decode cX11_means 38 = .ok (.invokevirtual 74, 3) := by decide +kernel
theorem dX11_means_41 : decode cX11_means 41 = .ok (.ireturn, 1) := by decide +kernel
theorem dX11_means_42 : decode cX11_means 42 = .ok (.aload 4, 2) := by decide +kernel
theorem dX11_means_44 : decode cX11_means 44 = .ok (.getfield 154, 3) := by decide +kernel
theorem dX11_means_47 : decode cX11_means 47 = .ok (.bipush 6, 2) := by decide +kernel
theorem dX11_means_49 : decode cX11_means 49 = .ok (.if_icmp .lt 9, 3) := by decide +kernel
theorem dX11_means_52 : decode cX11_means 52 = .ok (.aload_n 0, 1) := by decide +kernel
theorem dX11_means_53 : decode cX11_means 53 = .ok (.iconst 3, 1) := by decide +kernel
theorem dX11_means_54 : decode cX11_means 54 = .ok (.invokevirtual 74, 3) := by decide +kernel
theorem dX11_means_57 : decode cX11_means 57 = .ok (.ireturn, 1) := by decide +kernel
theorem dX11_means_58 : decode cX11_means 58 = .ok (.aload 4, 2) := by decide +kernel
theorem dX11_means_60 : decode cX11_means 60 = .ok (.iload_n 2, 1) := by decide +kernel
theorem dX11_means_61 : decode cX11_means 61 = .ok (.iload_n 3, 1) := by decide +kernel
theorem dX11_means_62 : decode cX11_means 62 = .ok (.invokevirtual 157, 3) := by decide +kernel
theorem dX11_means_65 : decode cX11_means 65 = .ok (.aload_n 0, 1) := by decide +kernel
theorem dX11_means_66 : decode cX11_means 66 = .ok (.aload 4, 2) := by decide +kernel
theorem dX11_means_68 : decode cX11_means 68 = .ok (.getfield 154, 3) := by decide +kernel
theorem dX11_means_71 : decode cX11_means 71 = .ok (.invokevirtual 78, 3) := by decide +kernel
theorem dX11_means_74 : decode cX11_means 74 = .ok (.ireturn, 1) := by decide +kernel
theorem dX11_dies_0 : decode cX11_dies 0 = .ok (.aload_n 0, 1) := by decide +kernel
theorem dX11_dies_1 : decode cX11_dies 1 = .ok (.iload_n 1, 1) := by decide +kernel
theorem dX11_dies_2 : decode cX11_dies 2 = .ok (.invokevirtual 150, 3) := by decide +kernel
theorem dX11_dies_5 : decode cX11_dies 5 = .ok (.astore_n 2, 1) := by decide +kernel
theorem dX11_dies_6 : decode cX11_dies 6 = .ok (.aload_n 2, 1) := by decide +kernel
theorem dX11_dies_7 : decode cX11_dies 7 = .ok (.ifnonnull 11, 3) := by decide +kernel
theorem dX11_dies_10 : decode cX11_dies 10 = .ok (.aload_n 0, 1) := by decide +kernel
theorem dX11_dies_11 : decode cX11_dies 11 = .ok (.iconst 1, 1) := by decide +kernel
theorem dX11_dies_12 : decode cX11_dies 12 = .ok (.invokevirtual 74, 3) := by decide +kernel
theorem dX11_dies_15 : decode cX11_dies 15 = .ok (.pop, 1) := by decide +kernel
theorem dX11_dies_16 : decode cX11_dies 16 = .ok (.iconst 0, 1) := by decide +kernel
theorem dX11_dies_17 : decode cX11_dies 17 = .ok (.ireturn, 1) := by decide +kernel
theorem dX11_dies_18 : decode cX11_dies 18 = .ok (.aload_n 2, 1) := by decide +kernel
theorem dX11_dies_19 : decode cX11_dies 19 = .ok (.getfield 160, 3) := by decide +kernel
theorem dX11_dies_22 : decode cX11_dies 22 = .ok (.ldc 163, 2) := by decide +kernel
theorem dX11_dies_24 : decode cX11_dies 24 = .ok (.if_icmp .eq 11, 3) := by decide +kernel
theorem dX11_dies_27 : decode cX11_dies 27 = .ok (.aload_n 0, 1) := by decide +kernel
theorem dX11_dies_28 : decode cX11_dies 28 = .ok (.iconst 5, 1) := by decide +kernel
theorem dX11_dies_29 : decode cX11_dies 29 = .ok (.invokevirtual 74, 3) := by decide +kernel
theorem dX11_dies_32 : decode cX11_dies 32 = .ok (.pop, 1) := by decide +kernel
theorem dX11_dies_33 : decode cX11_dies 33 = .ok (.iconst 0, 1) := by decide +kernel
theorem dX11_dies_34 : decode cX11_dies 34 = .ok (.ireturn, 1) := by decide +kernel
theorem dX11_dies_35 : decode cX11_dies 35 = .ok (.aload_n 2, 1) := by decide +kernel
theorem dX11_dies_36 : decode cX11_dies 36 = .ok (.aload_n 0, 1) := by decide +kernel
theorem dX11_dies_37 : decode cX11_dies 37 = .ok (.getfield 135, 3) := by decide +kernel
theorem dX11_dies_40 : decode cX11_dies 40 = .ok (.putfield 160, 3) := by decide +kernel
theorem dX11_dies_43 : decode cX11_dies 43 = .ok (.aload_n 0, 1) := by decide +kernel
theorem dX11_dies_44 : decode cX11_dies 44 = .ok (.aload_n 0, 1) := by decide +kernel
theorem dX11_dies_45 : decode cX11_dies 45 = .ok (.aload_n 2, 1) := by decide +kernel
theorem dX11_dies_46 : decode cX11_dies 46 = .ok (.getfield 164, 3) := by decide +kernel
theorem dX11_dies_49 : decode cX11_dies 49 = .ok (.invokevirtual 167, 3) := by decide +kernel
theorem dX11_dies_52 : decode cX11_dies 52 = .ok (.invokevirtual 171, 3) := by decide +kernel
theorem dX11_dies_55 : decode cX11_dies 55 = .ok (.aload_n 0, 1) := by decide +kernel
theorem dX11_dies_56 : decode cX11_dies 56 = .ok (.iconst 0, 1) := by decide +kernel
theorem dX11_dies_57 : decode cX11_dies 57 = .ok (.invokevirtual 78, 3) := by decide +kernel
theorem dX11_dies_60 : decode cX11_dies 60 = .ok (.pop, 1) := by decide +kernel
theorem dX11_dies_61 : decode cX11_dies 61 = .ok (.iconst 1, 1) := by decide +kernel
theorem dX11_dies_62 : decode cX11_dies 62 = .ok (.ireturn, 1) := by decide +kernel
theorem dX11_fact_0 : decode cX11_fact 0 = .ok (.aload_n 0, 1) := by decide +kernel
theorem dX11_fact_1 : decode cX11_fact 1 = .ok (.iload_n 1, 1) := by decide +kernel
theorem dX11_fact_2 : decode cX11_fact 2 = .ok (.invokevirtual 150, 3) := by decide +kernel
theorem dX11_fact_5 : decode cX11_fact 5 = .ok (.astore 4, 2) := by decide +kernel
theorem dX11_fact_7 : decode cX11_fact 7 = .ok (.aload 4, 2) := by decide +kernel
theorem dX11_fact_9 : decode cX11_fact 9 = .ok (.ifnull 19, 3) := by decide +kernel
theorem dX11_fact_12 : decode cX11_fact 12 = .ok (.iload_n 2, 1) := by decide +kernel
theorem dX11_fact_13 : decode cX11_fact 13 = .ok (.invokestatic 92, 3) := by decide +kernel
theorem dX11_fact_16 : decode cX11_fact 16 = .ok (.ifCond .eq 12, 3) := by decide +kernel
theorem dX11_fact_19 : decode cX11_fact 19 = .ok (.iload_n 3, 1) := by decide +kernel
theorem dX11_fact_20 : decode cX11_fact 20 = .ok (.ifCond .lt 8, 3) := by decide +kernel
