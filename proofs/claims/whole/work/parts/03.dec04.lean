theorem dX11_keepChanges_26 : decode cX11_keepChanges 26 = .ok (.iload_n 2, 1) := by decide +kernel
theorem dX11_keepChanges_27 : decode cX11_keepChanges 27 = .ok (.aload_n 0, 1) := by decide +kernel
theorem dX11_keepChanges_28 : decode cX11_keepChanges 28 = .ok (.getfield 23, 3) := by decide +kernel
theorem dX11_keepChanges_31 : decode cX11_keepChanges 31 = .ok (.iload_n 3, 1) := by decide +kernel
theorem dX11_keepChanges_32 : decode cX11_keepChanges 32 = .ok (.invokevirtual 276, 3) := by decide +kernel
theorem dX11_keepChanges_35 : decode cX11_keepChanges 35 = .ok (.aload_n 0, 1) := by decide +kernel
theorem dX11_keepChanges_36 : decode cX11_keepChanges 36 = .ok (.getfield 23, 3) := by decide +kernel
theorem dX11_keepChanges_39 : decode cX11_keepChanges 39 = .ok (.iload_n 3, 1) := by decide +kernel
theorem dX11_keepChanges_40 : decode cX11_keepChanges 40 = .ok (.invokevirtual 279, 3) := by decide +kernel
theorem dX11_keepChanges_43 : decode cX11_keepChanges 43 = .ok (.aload_n 0, 1) := by decide +kernel
theorem dX11_keepChanges_44 : decode cX11_keepChanges 44 = .ok (.getfield 23, 3) := by decide +kernel
theorem dX11_keepChanges_47 : decode cX11_keepChanges 47 = .ok (.iload_n 3, 1) := by decide +kernel
theorem dX11_keepChanges_48 : decode cX11_keepChanges 48 = .ok (.invokevirtual 282, 3) := by decide +kernel
theorem dX11_keepChanges_51 : decode cX11_keepChanges 51 = .ok (.invokespecial 286, 3) := by decide +kernel
theorem dX11_keepChanges_54 : decode cX11_keepChanges 54 = .ok (.invokevirtual 146, 3) := by decide +kernel
theorem dX11_keepChanges_57 : decode cX11_keepChanges 57 = .ok (.pop, 1) := by decide +kernel
theorem dX11_keepChanges_58 : decode cX11_keepChanges 58 = .ok (.iinc 3 1, 3) := by decide +kernel
theorem dX11_keepChanges_61 : decode cX11_keepChanges 61 = .ok (.goto (-59), 3) := by decide +kernel
theorem dX11_keepChanges_64 : decode cX11_keepChanges 64 = .ok (.return_, 1) := by decide +kernel
theorem dX11_choose_0 : decode cX11_choose 0 = .ok (.aload_n 0, 1) := by decide +kernel
theorem dX11_choose_1 : decode cX11_choose 1 = .ok (.getfield 37, 3) := by decide +kernel
theorem dX11_choose_4 : decode cX11_choose 4 = .ok (.aload_n 0, 1) := by decide +kernel
theorem dX11_choose_5 : decode cX11_choose 5 = .ok (.getfield 30, 3) := by decide +kernel
theorem dX11_choose_8 : decode cX11_choose 8 = .ok (.iload_n 1, 1) := by decide +kernel
theorem dX11_choose_9 : decode cX11_choose 9 = .ok (.iload_n 2, 1) := by decide +kernel
theorem dX11_choose_10 : decode cX11_choose 10 = .ok (.invokevirtual 117, 3) := by decide +kernel
theorem dX11_choose_13 : decode cX11_choose 13 = .ok (.bipush (-2), 2) := by decide +kernel
theorem dX11_choose_15 : decode cX11_choose 15 = .ok (.istore_n 3, 1) := by decide +kernel
theorem dX11_choose_16 : decode cX11_choose 16 = .ok (.iconst (-1), 1) := by decide +kernel
theorem dX11_choose_17 : decode cX11_choose 17 = .ok (.istore 4, 2) := by decide +kernel
theorem dX11_choose_19 : decode cX11_choose 19 = .ok (.iconst 0, 1) := by decide +kernel
theorem dX11_choose_20 : decode cX11_choose 20 = .ok (.istore 5, 2) := by decide +kernel
theorem dX11_choose_22 : decode cX11_choose 22 = .ok (.iload 5, 2) := by decide +kernel
theorem dX11_choose_24 : decode cX11_choose 24 = .ok (.aload_n 0, 1) := by decide +kernel
theorem dX11_choose_25 : decode cX11_choose 25 = .ok (.getfield 41, 3) := by decide +kernel
theorem dX11_choose_28 : decode cX11_choose 28 = .ok (.invokevirtual 138, 3) := by decide +kernel
theorem dX11_choose_31 : decode cX11_choose 31 = .ok (.if_icmp .ge 71, 3) := by decide +kernel
theorem dX11_choose_34 : decode cX11_choose 34 = .ok (.aload_n 0, 1) := by decide +kernel
theorem dX11_choose_35 : decode cX11_choose 35 = .ok (.getfield 41, 3) := by decide +kernel
theorem dX11_choose_38 : decode cX11_choose 38 = .ok (.iload 5, 2) := by decide +kernel
theorem dX11_choose_40 : decode cX11_choose 40 = .ok (.invokevirtual 190, 3) := by decide +kernel
theorem dX11_choose_43 : decode cX11_choose 43 = .ok (.checkcast 141, 3) := by decide +kernel
theorem dX11_choose_46 : decode cX11_choose 46 = .ok (.astore 6, 2) := by decide +kernel
theorem dX11_choose_48 : decode cX11_choose 48 = .ok (.aload 6, 2) := by decide +kernel
theorem dX11_choose_50 : decode cX11_choose 50 = .ok (.getfield 164, 3) := by decide +kernel
theorem dX11_choose_53 : decode cX11_choose 53 = .ok (.iconst (-1), 1) := by decide +kernel
theorem dX11_choose_54 : decode cX11_choose 54 = .ok (.if_icmp .ne 42, 3) := by decide +kernel
theorem dX11_choose_57 : decode cX11_choose 57 = .ok (.aload_n 0, 1) := by decide +kernel
theorem dX11_choose_58 : decode cX11_choose 58 = .ok (.getfield 37, 3) := by decide +kernel
theorem dX11_choose_61 : decode cX11_choose 61 = .ok (.aload 6, 2) := by decide +kernel
theorem dX11_choose_63 : decode cX11_choose 63 = .ok (.iload_n 2, 1) := by decide +kernel
theorem dX11_choose_64 : decode cX11_choose 64 = .ok (.invokevirtual 179, 3) := by decide +kernel
theorem dX11_choose_67 : decode cX11_choose 67 = .ok (.ifCond .eq 29, 3) := by decide +kernel
theorem dX11_choose_70 : decode cX11_choose 70 = .ok (.aload_n 0, 1) := by decide +kernel
theorem dX11_choose_71 : decode cX11_choose 71 = .ok (.getfield 37, 3) := by decide +kernel
theorem dX11_choose_74 : decode cX11_choose 74 = .ok (.aload 6, 2) := by decide +kernel
theorem dX11_choose_76 : decode cX11_choose 76 = .ok (.iload_n 2, 1) := by decide +kernel
theorem dX11_choose_77 : decode cX11_choose 77 = .ok (.invokevirtual 187, 3) := by decide +kernel
theorem dX11_choose_80 : decode cX11_choose 80 = .ok (.istore 7, 2) := by decide +kernel
theorem dX11_choose_82 : decode cX11_choose 82 = .ok (.iload 7, 2) := by decide +kernel
theorem dX11_choose_84 : decode cX11_choose 84 = .ok (.iload 4, 2) := by decide +kernel
theorem dX11_choose_86 : decode cX11_choose 86 = .ok (.if_icmp .le 10, 3) := by decide +kernel
theorem dX11_choose_89 : decode cX11_choose 89 = .ok (.iload 7, 2) := by decide +kernel
theorem dX11_choose_91 : decode cX11_choose 91 = .ok (.istore 4, 2) := by decide +kernel
theorem dX11_choose_93 : decode cX11_choose 93 = .ok (.iload 5, 2) := by decide +kernel
theorem dX11_choose_95 : decode cX11_choose 95 = .ok (.istore_n 3, 1) := by decide +kernel
theorem dX11_choose_96 : decode cX11_choose 96 = .ok (.iinc 5 1, 3) := by decide +kernel
theorem dX11_choose_99 : decode cX11_choose 99 = .ok (.goto (-77), 3) := by decide +kernel
theorem dX11_choose_102 : decode cX11_choose 102 = .ok (.iload_n 3, 1) := by decide +kernel
theorem dX11_choose_103 : decode cX11_choose 103 = .ok (.ireturn, 1) := by decide +kernel
theorem dX11_empty_0 : decode cX11_empty 0 = .ok (.aload_n 1, 1) := by decide +kernel
theorem dX11_empty_1 : decode cX11_empty 1 = .ok (.ifnull 10, 3) := by decide +kernel
theorem dX11_empty_4 : decode cX11_empty 4 = .ok (.aload_n 1, 1) := by decide +kernel
theorem dX11_empty_5 : decode cX11_empty 5 = .ok (.getfield 207, 3) := by decide +kernel
theorem dX11_empty_8 : decode cX11_empty 8 = .ok (.ifnonnull 4, 3) := by decide +kernel
theorem dX11_empty_11 : decode cX11_empty 11 = .ok (.return_, 1) := by decide +kernel
theorem dX11_empty_12 : decode cX11_empty 12 = .ok (.aload_n 0, 1) := by decide +kernel
theorem dX11_empty_13 : decode cX11_empty 13 = .ok (.aload_n 1, 1) := by decide +kernel
theorem dX11_empty_14 : decode cX11_empty 14 = .ok (.getfield 207, 3) := by decide +kernel
theorem dX11_empty_17 : decode cX11_empty 17 = .ok (.getfield 227, 3) := by decide +kernel
theorem dX11_empty_20 : decode cX11_empty 20 = .ok (.invokevirtual 150, 3) := by decide +kernel
theorem dX11_empty_23 : decode cX11_empty 23 = .ok (.astore_n 2, 1) := by decide +kernel
theorem dX11_empty_24 : decode cX11_empty 24 = .ok (.aload_n 2, 1) := by decide +kernel
theorem dX11_empty_25 : decode cX11_empty 25 = .ok (.ifnull 13, 3) := by decide +kernel
theorem dX11_empty_28 : decode cX11_empty 28 = .ok (.aload_n 2, 1) := by decide +kernel
theorem dX11_empty_29 : decode cX11_empty 29 = .ok (.iconst (-1), 1) := by decide +kernel
theorem dX11_empty_30 : decode cX11_empty 30 = .ok (.putfield 164, 3) := by decide +kernel
theorem dX11_empty_33 : decode cX11_empty 33 = .ok (.aload_n 2, 1) := by decide +kernel
theorem dX11_empty_34 : decode cX11_empty 34 = .ok (.iconst 0, 1) := by decide +kernel
theorem dX11_empty_35 : decode cX11_empty 35 = .ok (.putfield 247, 3) := by decide +kernel
theorem dX11_empty_38 : decode cX11_empty 38 = .ok (.aload_n 1, 1) := by decide +kernel
theorem dX11_empty_39 : decode cX11_empty 39 = .ok (.getfield 207, 3) := by decide +kernel
theorem dX11_empty_42 : decode cX11_empty 42 = .ok (.aload_n 0, 1) := by decide +kernel
theorem dX11_empty_43 : decode cX11_empty 43 = .ok (.getfield 135, 3) := by decide +kernel
theorem dX11_empty_46 : decode cX11_empty 46 = .ok (.putfield 234, 3) := by decide +kernel
theorem dX11_empty_49 : decode cX11_empty 49 = .ok (.aload_n 1, 1) := by decide +kernel
theorem dX11_empty_50 : decode cX11_empty 50 = .ok (.aconst_null, 1) := by decide +kernel
theorem dX11_empty_51 : decode cX11_empty 51 = .ok (.putfield 207, 3) := by decide +kernel
theorem dX11_empty_54 : decode cX11_empty 54 = .ok (.return_, 1) := by decide +kernel
theorem dX11_emptyRooms_0 : decode cX11_emptyRooms 0 = .ok (.iconst 0, 1) := by decide +kernel
theorem dX11_emptyRooms_1 : decode cX11_emptyRooms 1 = .ok (.istore_n 1, 1) := by decide +kernel
theorem dX11_emptyRooms_2 : decode cX11_emptyRooms 2 = .ok (.iconst 0, 1) := by decide +kernel
theorem dX11_emptyRooms_3 : decode cX11_emptyRooms 3 = .ok (.istore_n 2, 1) := by decide +kernel
theorem dX11_emptyRooms_4 : decode cX11_emptyRooms 4 = .ok (.iload_n 2, 1) := by decide +kernel
theorem dX11_emptyRooms_5 : decode cX11_emptyRooms 5 = .ok (.aload_n 0, 1) := by decide +kernel
theorem dX11_emptyRooms_6 : decode cX11_emptyRooms 6 = .ok (.getfield 44, 3) := by decide +kernel
theorem dX11_emptyRooms_9 : decode cX11_emptyRooms 9 = .ok (.invokevirtual 138, 3) := by decide +kernel
theorem dX11_emptyRooms_12 : decode cX11_emptyRooms 12 = .ok (.if_icmp .ge 29, 3) := by decide +kernel
theorem dX11_emptyRooms_15 : decode cX11_emptyRooms 15 = .ok (.aload_n 0, 1) := by decide +kernel
theorem dX11_emptyRooms_16 : decode cX11_emptyRooms 16 = .ok (.getfield 44, 3) := by decide +kernel
theorem dX11_emptyRooms_19 : decode cX11_emptyRooms 19 = .ok (.iload_n 2, 1) := by decide +kernel
theorem dX11_emptyRooms_20 : decode cX11_emptyRooms 20 = .ok (.invokevirtual 190, 3) := by decide +kernel
theorem dX11_emptyRooms_23 : decode cX11_emptyRooms 23 = .ok (.checkcast 197, 3) := by decide +kernel
theorem dX11_emptyRooms_26 : decode cX11_emptyRooms 26 = .ok (.getfield 207, 3) := by decide +kernel
theorem dX11_emptyRooms_29 : decode cX11_emptyRooms 29 = .ok (.ifnonnull 6, 3) := by decide +kernel
theorem dX11_emptyRooms_32 : decode cX11_emptyRooms 32 = .ok (.iinc 1 1, 3) := by decide +kernel
theorem dX11_emptyRooms_35 : decode cX11_emptyRooms 35 = .ok (.iinc 2 1, 3) := by decide +kernel
theorem dX11_emptyRooms_38 : decode cX11_emptyRooms 38 = .ok (.goto (-34), 3) := by decide +kernel
theorem dX11_emptyRooms_41 : decode cX11_emptyRooms 41 = .ok (.iload_n 1, 1) := by decide +kernel
theorem dX11_emptyRooms_42 : decode cX11_emptyRooms 42 = .ok (.ireturn, 1) := by decide +kernel
theorem dX11_bringRents_0 : decode cX11_bringRents 0 = .ok (.iconst 0, 1) := by decide +kernel
theorem dX11_bringRents_1 : decode cX11_bringRents 1 = .ok (.istore_n 1, 1) := by decide +kernel
theorem dX11_bringRents_2 : decode cX11_bringRents 2 = .ok (.iload_n 1, 1) := by decide +kernel
theorem dX11_bringRents_3 : decode cX11_bringRents 3 = .ok (.aload_n 0, 1) := by decide +kernel
theorem dX11_bringRents_4 : decode cX11_bringRents 4 = .ok (.getfield 57, 3) := by decide +kernel
theorem dX11_bringRents_7 : decode cX11_bringRents 7 = .ok (.invokevirtual 138, 3) := by decide +kernel
theorem dX11_bringRents_10 : decode cX11_bringRents 10 = .ok (.if_icmp .ge 43, 3) := by decide +kernel
theorem dX11_bringRents_13 : decode cX11_bringRents 13 = .ok (.aload_n 0, 1) := by decide +kernel
theorem dX11_bringRents_14 : decode cX11_bringRents 14 = .ok (.getfield 57, 3) := by decide +kernel
theorem dX11_bringRents_17 : decode cX11_bringRents 17 = .ok (.iload_n 1, 1) := by decide +kernel
theorem dX11_bringRents_18 : decode cX11_bringRents 18 = .ok (.invokevirtual 190, 3) := by decide +kernel
theorem dX11_bringRents_21 : decode cX11_bringRents 21 = .ok (.checkcast 238, 3) := by decide +kernel
theorem dX11_bringRents_24 : decode cX11_bringRents 24 = .ok (.astore_n 2, 1) := by decide +kernel
theorem dX11_bringRents_25 : decode cX11_bringRents 25 = .ok (.aload_n 2, 1) := by decide +kernel
theorem dX11_bringRents_26 : decode cX11_bringRents 26 = .ok (.aload_n 0, 1) := by decide +kernel
theorem dX11_bringRents_27 : decode cX11_bringRents 27 = .ok (.getfield 135, 3) := by decide +kernel
theorem dX11_bringRents_30 : decode cX11_bringRents 30 = .ok (.invokevirtual 289, 3) := by decide +kernel
theorem dX11_bringRents_33 : decode cX11_bringRents 33 = .ok (.ifCond .eq 14, 3) := by decide +kernel
theorem dX11_bringRents_36 : decode cX11_bringRents 36 = .ok (.aload_n 0, 1) := by decide +kernel
theorem dX11_bringRents_37 : decode cX11_bringRents 37 = .ok (.getfield 63, 3) := by decide +kernel
theorem dX11_bringRents_40 : decode cX11_bringRents 40 = .ok (.aload_n 2, 1) := by decide +kernel
theorem dX11_bringRents_41 : decode cX11_bringRents 41 = .ok (.getfield 292, 3) := by decide +kernel
theorem dX11_bringRents_44 : decode cX11_bringRents 44 = .ok (.invokevirtual 295, 3) := by decide +kernel
theorem dX11_bringRents_47 : decode cX11_bringRents 47 = .ok (.iinc 1 1, 3) := by decide +kernel
theorem dX11_bringRents_50 : decode cX11_bringRents 50 = .ok (.goto (-48), 3) := by decide +kernel
theorem dX11_bringRents_53 : decode cX11_bringRents 53 = .ok (.return_, 1) := by decide +kernel
theorem dX11_payDoles_0 : decode cX11_payDoles 0 = .ok (.iconst 0, 1) := by decide +kernel
theorem dX11_payDoles_1 : decode cX11_payDoles 1 = .ok (.istore_n 1, 1) := by decide +kernel
theorem dX11_payDoles_2 : decode cX11_payDoles 2 = .ok (.iload_n 1, 1) := by decide +kernel
theorem dX11_payDoles_3 : decode cX11_payDoles 3 = .ok (.aload_n 0, 1) := by decide +kernel
theorem dX11_payDoles_4 : decode cX11_payDoles 4 = .ok (.getfield 44, 3) := by decide +kernel
theorem dX11_payDoles_7 : decode cX11_payDoles 7 = .ok (.invokevirtual 138, 3) := by decide +kernel
theorem dX11_payDoles_10 : decode cX11_payDoles 10 = .ok (.if_icmp .ge 87, 3) := by decide +kernel
theorem dX11_payDoles_13 : decode cX11_payDoles 13 = .ok (.aload_n 0, 1) := by decide +kernel
theorem dX11_payDoles_14 : decode cX11_payDoles 14 = .ok (.getfield 44, 3) := by decide +kernel
theorem dX11_payDoles_17 : decode cX11_payDoles 17 = .ok (.iload_n 1, 1) := by decide +kernel
theorem dX11_payDoles_18 : decode cX11_payDoles 18 = .ok (.invokevirtual 190, 3) := by decide +kernel
theorem dX11_payDoles_21 : decode cX11_payDoles 21 = .ok (.checkcast 197, 3) := by decide +kernel
theorem dX11_payDoles_24 : decode cX11_payDoles 24 = .ok (.getfield 207, 3) := by decide +kernel
theorem dX11_payDoles_27 : decode cX11_payDoles 27 = .ok (.astore_n 2, 1) := by decide +kernel
theorem dX11_payDoles_28 : decode cX11_payDoles 28 = .ok (.aload_n 2, 1) := by decide +kernel
theorem dX11_payDoles_29 : decode cX11_payDoles 29 = .ok (.ifnonnull 7, 3) := by decide +kernel
theorem dX11_payDoles_32 : decode cX11_payDoles 32 = .ok (.aconst_null, 1) := by decide +kernel
theorem dX11_payDoles_33 : decode cX11_payDoles 33 = .ok (.goto 11, 3) := by decide +kernel
theorem dX11_payDoles_36 : decode cX11_payDoles 36 = .ok (.aload_n 0, 1) := by decide +kernel
theorem dX11_payDoles_37 : decode cX11_payDoles 37 = .ok (.aload_n 2, 1) := by decide +kernel
theorem dX11_payDoles_38 : decode cX11_payDoles 38 = .ok (.getfield 227, 3) := by decide +kernel
theorem dX11_payDoles_41 : decode cX11_payDoles 41 = .ok (.invokevirtual 150, 3) := by decide +kernel
theorem dX11_payDoles_44 : decode cX11_payDoles 44 = .ok (.astore_n 3, 1) := by decide +kernel
theorem dX11_payDoles_45 : decode cX11_payDoles 45 = .ok (.aload_n 3, 1) := by decide +kernel
theorem dX11_payDoles_46 : decode cX11_payDoles 46 = .ok (.ifnull 45, 3) := by decide +kernel
theorem dX11_payDoles_49 : decode cX11_payDoles 49 = .ok (.aload_n 0, 1) := by decide +kernel
theorem dX11_payDoles_50 : decode cX11_payDoles 50 = .ok (.getfield 67, 3) := by decide +kernel
theorem dX11_payDoles_53 : decode cX11_payDoles 53 = .ok (.aload_n 3, 1) := by decide +kernel
theorem dX11_payDoles_54 : decode cX11_payDoles 54 = .ok (.getfield 247, 3) := by decide +kernel
theorem dX11_payDoles_57 : decode cX11_payDoles 57 = .ok (.iadd, 1) := by decide +kernel
theorem dX11_payDoles_58 : decode cX11_payDoles 58 = .ok (.istore 4, 2) := by decide +kernel
theorem dX11_payDoles_60 : decode cX11_payDoles 60 = .ok (.aload_n 0, 1) := by decide +kernel
theorem dX11_payDoles_61 : decode cX11_payDoles 61 = .ok (.getfield 63, 3) := by decide +kernel
theorem dX11_payDoles_64 : decode cX11_payDoles 64 = .ok (.iload 4, 2) := by decide +kernel
theorem dX11_payDoles_66 : decode cX11_payDoles 66 = .ok (.invokevirtual 298, 3) := by decide +kernel
theorem dX11_payDoles_69 : decode cX11_payDoles 69 = .ok (.istore 5, 2) := by decide +kernel
theorem dX11_payDoles_71 : decode cX11_payDoles 71 = .ok (.aload_n 3, 1) := by decide +kernel
theorem dX11_payDoles_72 : decode cX11_payDoles 72 = .ok (.dup, 1) := by decide +kernel
theorem dX11_payDoles_73 : decode cX11_payDoles 73 = .ok (.getfield 250, 3) := by decide +kernel
theorem dX11_payDoles_76 : decode cX11_payDoles 76 = .ok (.iload 5, 2) := by decide +kernel
theorem dX11_payDoles_78 : decode cX11_payDoles 78 = .ok (.iadd, 1) := by decide +kernel
theorem dX11_payDoles_79 : decode cX11_payDoles 79 = .ok (.putfield 250, 3) := by decide +kernel
theorem dX11_payDoles_82 : decode cX11_payDoles 82 = .ok (.aload_n 3, 1) := by decide +kernel
theorem dX11_payDoles_83 : decode cX11_payDoles 83 = .ok (.iload 4, 2) := by decide +kernel
theorem dX11_payDoles_85 : decode cX11_payDoles 85 = .ok (.iload 5, 2) := by decide +kernel
theorem dX11_payDoles_87 : decode cX11_payDoles 87 = .ok (.isub, 1) := by decide +kernel
theorem dX11_payDoles_88 : decode cX11_payDoles 88 = .ok (.putfield 247, 3) := by decide +kernel
theorem dX11_payDoles_91 : decode cX11_payDoles 91 = .ok (.iinc 1 1, 3) := by decide +kernel
theorem dX11_payDoles_94 : decode cX11_payDoles 94 = .ok (.goto (-92), 3) := by decide +kernel
theorem dX11_payDoles_97 : decode cX11_payDoles 97 = .ok (.return_, 1) := by decide +kernel
theorem dX12_init_0 : decode cX12_init 0 = .ok (.aload_n 0, 1) := by decide +kernel
theorem dX12_init_1 : decode cX12_init 1 = .ok (.invokespecial 3, 3) := by decide +kernel
theorem dX12_init_4 : decode cX12_init 4 = .ok (.aload_n 0, 1) := by decide +kernel
theorem dX12_init_5 : decode cX12_init 5 = .ok (.bipush 12, 2) := by decide +kernel
theorem dX12_init_7 : decode cX12_init 7 = .ok (.newarray .int, 2) := by decide +kernel
theorem dX12_init_9 : decode cX12_init 9 = .ok (.putfield 9, 3) := by decide +kernel
theorem dX12_init_12 : decode cX12_init 12 = .ok (.aload_n 0, 1) := by decide +kernel
theorem dX12_init_13 : decode cX12_init 13 = .ok (.bipush 12, 2) := by decide +kernel
theorem dX12_init_15 : decode cX12_init 15 = .ok (.newarray .int, 2) := by decide +kernel
theorem dX12_init_17 : decode cX12_init 17 = .ok (.putfield 15, 3) := by decide +kernel
theorem dX12_init_20 : decode cX12_init 20 = .ok (.aload_n 0, 1) := by decide +kernel
theorem dX12_init_21 : decode cX12_init 21 = .ok (.bipush 12, 2) := by decide +kernel
theorem dX12_init_23 : decode cX12_init 23 = .ok (.newarray .int, 2) := by decide +kernel
theorem dX12_init_25 : decode cX12_init 25 = .ok (.putfield 18, 3) := by decide +kernel
theorem dX12_init_28 : decode cX12_init 28 = .ok (.aload_n 0, 1) := by decide +kernel
theorem dX12_init_29 : decode cX12_init 29 = .ok (.bipush 12, 2) := by decide +kernel
theorem dX12_init_31 : decode cX12_init 31 = .ok (.newarray .int, 2) := by decide +kernel
theorem dX12_init_33 : decode cX12_init 33 = .ok (.putfield 21, 3) := by decide +kernel
theorem dX12_init_36 : decode cX12_init 36 = .ok (.aload_n 0, 1) := by decide +kernel
theorem dX12_init_37 : decode cX12_init 37 = .ok (.bipush 12, 2) := by decide +kernel
theorem dX12_init_39 : decode cX12_init 39 = .ok (.newarray .int, 2) := by decide +kernel
theorem dX12_init_41 : decode cX12_init 41 = .ok (.putfield 24, 3) := by decide +kernel
theorem dX12_init_44 : decode cX12_init 44 = .ok (.aload_n 0, 1) := by decide +kernel
theorem dX12_init_45 : decode cX12_init 45 = .ok (.sipush 130, 3) := by decide +kernel
theorem dX12_init_48 : decode cX12_init 48 = .ok (.newarray .int, 2) := by decide +kernel
theorem dX12_init_50 : decode cX12_init 50 = .ok (.putfield 27, 3) := by decide +kernel
theorem dX12_init_53 : decode cX12_init 53 = .ok (.aload_n 0, 1) := by decide +kernel
theorem dX12_init_54 : decode cX12_init 54 = .ok (.sipush 130, 3) := by decide +kernel
theorem dX12_init_57 : decode cX12_init 57 = .ok (.newarray .int, 2) := by decide +kernel
theorem dX12_init_59 : decode cX12_init 59 = .ok (.putfield 30, 3) := by decide +kernel
theorem dX12_init_62 : decode cX12_init 62 = .ok (.aload_n 0, 1) := by decide +kernel
theorem dX12_init_63 : decode cX12_init 63 = .ok (.sipush 130, 3) := by decide +kernel
theorem dX12_init_66 : decode cX12_init 66 = .ok (.newarray .int, 2) := by decide +kernel
theorem dX12_init_68 : decode cX12_init 68 = .ok (.putfield 33, 3) := by decide +kernel
theorem dX12_init_71 : decode cX12_init 71 = .ok (.aload_n 0, 1) := by decide +kernel
theorem dX12_init_72 : decode cX12_init 72 = .ok (.bipush 48, 2) := by decide +kernel
theorem dX12_init_74 : decode cX12_init 74 = .ok (.newarray .int, 2) := by decide +kernel
theorem dX12_init_76 : decode cX12_init 76 = .ok (.putfield 36, 3) := by decide +kernel
theorem dX12_init_79 : decode cX12_init 79 = .ok (.aload_n 0, 1) := by decide +kernel
theorem dX12_init_80 : decode cX12_init 80 = .ok (.bipush 48, 2) := by decide +kernel
theorem dX12_init_82 : decode cX12_init 82 = .ok (.newarray .int, 2) := by decide +kernel
theorem dX12_init_84 : decode cX12_init 84 = .ok (.putfield 39, 3) := by decide +kernel
theorem dX12_init_87 : decode cX12_init 87 = .ok (.return_, 1) := by decide +kernel
theorem dX12_put_0 : decode cX12_put 0 = .ok (.aload_n 0, 1) := by decide +kernel
theorem dX12_put_1 : decode cX12_put 1 = .ok (.getfield 27, 3) := by decide +kernel
theorem dX12_put_4 : decode cX12_put 4 = .ok (.aload_n 0, 1) := by decide +kernel
theorem dX12_put_5 : decode cX12_put 5 = .ok (.getfield 42, 3) := by decide +kernel
theorem dX12_put_8 : decode cX12_put 8 = .ok (.iload_n 1, 1) := by decide +kernel
theorem dX12_put_9 : decode cX12_put 9 = .ok (.iastore, 1) := by decide +kernel
theorem dX12_put_10 : decode cX12_put 10 = .ok (.aload_n 0, 1) := by decide +kernel
theorem dX12_put_11 : decode cX12_put 11 = .ok (.getfield 30, 3) := by decide +kernel
theorem dX12_put_14 : decode cX12_put 14 = .ok (.aload_n 0, 1) := by decide +kernel
theorem dX12_put_15 : decode cX12_put 15 = .ok (.getfield 42, 3) := by decide +kernel
theorem dX12_put_18 : decode cX12_put 18 = .ok (.iload_n 2, 1) := by decide +kernel
theorem dX12_put_19 : decode cX12_put 19 = .ok (.iastore, 1) := by decide +kernel
theorem dX12_put_20 : decode cX12_put 20 = .ok (.aload_n 0, 1) := by decide +kernel
theorem dX12_put_21 : decode cX12_put 21 = .ok (.getfield 33, 3) := by decide +kernel
theorem dX12_put_24 : decode cX12_put 24 = .ok (.aload_n 0, 1) := by decide +kernel
theorem dX12_put_25 : decode cX12_put 25 = .ok (.getfield 42, 3) := by decide +kernel
theorem dX12_put_28 : decode cX12_put 28 = .ok (.iload_n 3, 1) := by decide +kernel
theorem dX12_put_29 : decode cX12_put 29 = .ok (.iastore, 1) := by decide +kernel
theorem dX12_put_30 : decode cX12_put 30 = .ok (.aload_n 0, 1) := by decide +kernel
theorem dX12_put_31 : decode cX12_put 31 = .ok (.dup, 1) := by decide +kernel
theorem dX12_put_32 : decode cX12_put 32 = .ok (.getfield 42, 3) := by decide +kernel
theorem dX12_put_35 : decode cX12_put 35 = .ok (.iconst 1, 1) := by decide +kernel
theorem dX12_put_36 : decode cX12_put 36 = .ok (.iadd, 1) := by decide +kernel
theorem dX12_put_37 : decode cX12_put 37 = .ok (.putfield 42, 3) := by decide +kernel
theorem dX12_put_40 : decode cX12_put 40 = .ok (.return_, 1) := by decide +kernel
theorem dX13_init_0 : decode cX13_init 0 = .ok (.aload_n 0, 1) := by decide +kernel
theorem dX13_init_1 : decode cX13_init 1 = .ok (.aconst_null, 1) := by decide +kernel
theorem dX13_init_2 : decode cX13_init 2 = .ok (.aconst_null, 1) := by decide +kernel
theorem dX13_init_3 : decode cX13_init 3 = .ok (.iconst 0, 1) := by decide +kernel
theorem dX13_init_4 : decode cX13_init 4 = .ok (.iconst 0, 1) := by decide +kernel
theorem dX13_init_5 : decode cX13_init 5 = .ok (.invokespecial 1, 3) := by decide +kernel
theorem dX13_init_8 : decode cX13_init 8 = .ok (.return_, 1) := by decide +kernel
theorem dX14_init_0 : decode cX14_init 0 = .ok (.aload_n 0, 1) := by decide +kernel
theorem dX14_init_1 : decode cX14_init 1 = .ok (.invokespecial 1, 3) := by decide +kernel
theorem dX14_init_4 : decode cX14_init 4 = .ok (.aload_n 0, 1) := by decide +kernel
theorem dX14_init_5 : decode cX14_init 5 = .ok (.iconst (-1), 1) := by decide +kernel
theorem dX14_init_6 : decode cX14_init 6 = .ok (.putfield 9, 3) := by decide +kernel
theorem dX14_init_9 : decode cX14_init 9 = .ok (.aload_n 0, 1) := by decide +kernel
theorem dX14_init_10 : decode cX14_init 10 = .ok (.bipush 40, 2) := by decide +kernel
theorem dX14_init_12 : decode cX14_init 12 = .ok (.anewarray 13, 3) := by decide +kernel
theorem dX14_init_15 : decode cX14_init 15 = .ok (.putfield 15, 3) := by decide +kernel
theorem dX14_init_18 : decode cX14_init 18 = .ok (.aload_n 0, 1) := by decide +kernel
theorem dX14_init_19 : decode cX14_init 19 = .ok (.new 13, 3) := by decide +kernel
theorem dX14_init_22 : decode cX14_init 22 = .ok (.dup, 1) := by decide +kernel
theorem dX14_init_23 : decode cX14_init 23 = .ok (.invokespecial 19, 3) := by decide +kernel
theorem dX14_init_26 : decode cX14_init 26 = .ok (.putfield 20, 3) := by decide +kernel
theorem dX14_init_29 : decode cX14_init 29 = .ok (.aload_n 0, 1) := by decide +kernel
theorem dX14_init_30 : decode cX14_init 30 = .ok (.new 24, 3) := by decide +kernel
theorem dX14_init_33 : decode cX14_init 33 = .ok (.dup, 1) := by decide +kernel
theorem dX14_init_34 : decode cX14_init 34 = .ok (.invokespecial 26, 3) := by decide +kernel
theorem dX14_init_37 : decode cX14_init 37 = .ok (.putfield 27, 3) := by decide +kernel
theorem dX14_init_40 : decode cX14_init 40 = .ok (.aload_n 0, 1) := by decide +kernel
theorem dX14_init_41 : decode cX14_init 41 = .ok (.sipush 300, 3) := by decide +kernel
theorem dX14_init_44 : decode cX14_init 44 = .ok (.newarray .byte, 2) := by decide +kernel
theorem dX14_init_46 : decode cX14_init 46 = .ok (.putfield 31, 3) := by decide +kernel
theorem dX14_init_49 : decode cX14_init 49 = .ok (.aload_n 0, 1) := by decide +kernel
theorem dX14_init_50 : decode cX14_init 50 = .ok (.bipush 40, 2) := by decide +kernel
theorem dX14_init_52 : decode cX14_init 52 = .ok (.newarray .int, 2) := by decide +kernel
theorem dX14_init_54 : decode cX14_init 54 = .ok (.putfield 35, 3) := by decide +kernel
theorem dX14_init_57 : decode cX14_init 57 = .ok (.aload_n 0, 1) := by decide +kernel
theorem dX14_init_58 : decode cX14_init 58 = .ok (.bipush 40, 2) := by decide +kernel
theorem dX14_init_60 : decode cX14_init 60 = .ok (.newarray .int, 2) := by decide +kernel
theorem dX14_init_62 : decode cX14_init 62 = .ok (.putfield 39, 3) := by decide +kernel
theorem dX14_init_65 : decode cX14_init 65 = .ok (.aload_n 0, 1) := by decide +kernel
theorem dX14_init_66 : decode cX14_init 66 = .ok (.bipush 40, 2) := by decide +kernel
theorem dX14_init_68 : decode cX14_init 68 = .ok (.newarray .int, 2) := by decide +kernel
theorem dX14_init_70 : decode cX14_init 70 = .ok (.putfield 42, 3) := by decide +kernel
theorem dX14_init_73 : decode cX14_init 73 = .ok (.aload_n 0, 1) := by decide +kernel
theorem dX14_init_74 : decode cX14_init 74 = .ok (.bipush 40, 2) := by decide +kernel
theorem dX14_init_76 : decode cX14_init 76 = .ok (.newarray .int, 2) := by decide +kernel
theorem dX14_init_78 : decode cX14_init 78 = .ok (.putfield 45, 3) := by decide +kernel
theorem dX14_init_81 : decode cX14_init 81 = .ok (.aload_n 0, 1) := by decide +kernel
theorem dX14_init_82 : decode cX14_init 82 = .ok (.bipush 40, 2) := by decide +kernel
theorem dX14_init_84 : decode cX14_init 84 = .ok (.newarray .int, 2) := by decide +kernel
theorem dX14_init_86 : decode cX14_init 86 = .ok (.putfield 48, 3) := by decide +kernel
theorem dX14_init_89 : decode cX14_init 89 = .ok (.aload_n 0, 1) := by decide +kernel
theorem dX14_init_90 : decode cX14_init 90 = .ok (.bipush 40, 2) := by decide +kernel
theorem dX14_init_92 : decode cX14_init 92 = .ok (.newarray .int, 2) := by decide +kernel
theorem dX14_init_94 : decode cX14_init 94 = .ok (.putfield 51, 3) := by decide +kernel
theorem dX14_init_97 : decode cX14_init 97 = .ok (.aload_n 0, 1) := by decide +kernel
theorem dX14_init_98 : decode cX14_init 98 = .ok (.bipush 40, 2) := by decide +kernel
theorem dX14_init_100 : decode cX14_init 100 = .ok (.newarray .int, 2) := by decide +kernel
theorem dX14_init_102 : decode cX14_init 102 = .ok (.putfield 54, 3) := by decide +kernel
theorem dX14_init_105 : decode cX14_init 105 = .ok (.aload_n 0, 1) := by decide +kernel
theorem dX14_init_106 : decode cX14_init 106 = .ok (.bipush 40, 2) := by decide +kernel
theorem dX14_init_108 : decode cX14_init 108 = .ok (.newarray .int, 2) := by decide +kernel
theorem dX14_init_110 : decode cX14_init 110 = .ok (.putfield 57, 3) := by decide +kernel
theorem dX14_init_113 : decode cX14_init 113 = .ok (.aload_n 0, 1) := by decide +kernel
theorem dX14_init_114 : decode cX14_init 114 = .ok (.bipush 40, 2) := by decide +kernel
theorem dX14_init_116 : decode cX14_init 116 = .ok (.newarray .boolean, 2) := by decide +kernel
theorem dX14_init_118 : decode cX14_init 118 = .ok (.putfield 60, 3) := by decide +kernel
theorem dX14_init_121 : decode cX14_init 121 = .ok (.aload_n 0, 1) := by decide +kernel
theorem dX14_init_122 : decode cX14_init 122 = .ok (.sipush 240, 3) := by decide +kernel
theorem dX14_init_125 : decode cX14_init 125 = .ok (.newarray .int, 2) := by decide +kernel
theorem dX14_init_127 : decode cX14_init 127 = .ok (.putfield 64, 3) := by decide +kernel
theorem dX14_init_130 : decode cX14_init 130 = .ok (.aload_n 0, 1) := by decide +kernel
theorem dX14_init_131 : decode cX14_init 131 = .ok (.sipush 240, 3) := by decide +kernel
theorem dX14_init_134 : decode cX14_init 134 = .ok (.newarray .int, 2) := by decide +kernel
theorem dX14_init_136 : decode cX14_init 136 = .ok (.putfield 67, 3) := by decide +kernel
theorem dX14_init_139 : decode cX14_init 139 = .ok (.aload_n 0, 1) := by decide +kernel
theorem dX14_init_140 : decode cX14_init 140 = .ok (.sipush 130, 3) := by decide +kernel
theorem dX14_init_143 : decode cX14_init 143 = .ok (.newarray .boolean, 2) := by decide +kernel
theorem dX14_init_145 : decode cX14_init 145 = .ok (.putfield 70, 3) := by decide +kernel
theorem dX14_init_148 : decode cX14_init 148 = .ok (.aload_n 0, 1) := by decide +kernel
theorem dX14_init_149 : decode cX14_init 149 = .ok (.iconst (-1), 1) := by decide +kernel
theorem dX14_init_150 : decode cX14_init 150 = .ok (.putfield 73, 3) := by decide +kernel
theorem dX14_init_153 : decode cX14_init 153 = .ok (.aload_n 0, 1) := by decide +kernel
theorem dX14_init_154 : decode cX14_init 154 = .ok (.bipush 20, 2) := by decide +kernel
theorem dX14_init_156 : decode cX14_init 156 = .ok (.newarray .int, 2) := by decide +kernel
theorem dX14_init_158 : decode cX14_init 158 = .ok (.putfield 76, 3) := by decide +kernel
theorem dX14_init_161 : decode cX14_init 161 = .ok (.aload_n 0, 1) := by decide +kernel
theorem dX14_init_162 : decode cX14_init 162 = .ok (.bipush 20, 2) := by decide +kernel
theorem dX14_init_164 : decode cX14_init 164 = .ok (.newarray .int, 2) := by decide +kernel
theorem dX14_init_166 : decode cX14_init 166 = .ok (.putfield 79, 3) := by decide +kernel
theorem dX14_init_169 : decode cX14_init 169 = .ok (.aload_n 0, 1) := by decide +kernel
theorem dX14_init_170 : decode cX14_init 170 = .ok (.bipush 20, 2) := by decide +kernel
theorem dX14_init_172 : decode cX14_init 172 = .ok (.newarray .int, 2) := by decide +kernel
theorem dX14_init_174 : decode cX14_init 174 = .ok (.putfield 82, 3) := by decide +kernel
theorem dX14_init_177 : decode cX14_init 177 = .ok (.aload_n 0, 1) := by decide +kernel
theorem dX14_init_178 : decode cX14_init 178 = .ok (.bipush 100, 2) := by decide +kernel
theorem dX14_init_180 : decode cX14_init 180 = .ok (.newarray .int, 2) := by decide +kernel
theorem dX14_init_182 : decode cX14_init 182 = .ok (.putfield 85, 3) := by decide +kernel
theorem dX14_init_185 : decode cX14_init 185 = .ok (.aload_n 0, 1) := by decide +kernel
theorem dX14_init_186 : decode cX14_init 186 = .ok (.bipush 100, 2) := by decide +kernel
theorem dX14_init_188 : decode cX14_init 188 = .ok (.newarray .int, 2) := by decide +kernel
theorem dX14_init_190 : decode cX14_init 190 = .ok (.putfield 88, 3) := by decide +kernel
theorem dX14_init_193 : decode cX14_init 193 = .ok (.aload_n 0, 1) := by decide +kernel
theorem dX14_init_194 : decode cX14_init 194 = .ok (.bipush 100, 2) := by decide +kernel
theorem dX14_init_196 : decode cX14_init 196 = .ok (.newarray .int, 2) := by decide +kernel
theorem dX14_init_198 : decode cX14_init 198 = .ok (.putfield 91, 3) := by decide +kernel
theorem dX14_init_201 : decode cX14_init 201 = .ok (.aload_n 0, 1) := by decide +kernel
theorem dX14_init_202 : decode cX14_init 202 = .ok (.bipush 100, 2) := by decide +kernel
theorem dX14_init_204 : decode cX14_init 204 = .ok (.newarray .int, 2) := by decide +kernel
theorem dX14_init_206 : decode cX14_init 206 = .ok (.putfield 94, 3) := by decide +kernel
theorem dX14_init_209 : decode cX14_init 209 = .ok (.aload_n 0, 1) := by decide +kernel
theorem dX14_init_210 : decode cX14_init 210 = .ok (.bipush 8, 2) := by decide +kernel
theorem dX14_init_212 : decode cX14_init 212 = .ok (.newarray .boolean, 2) := by decide +kernel
theorem dX14_init_214 : decode cX14_init 214 = .ok (.putfield 97, 3) := by decide +kernel
theorem dX14_init_217 : decode cX14_init 217 = .ok (.aload_n 0, 1) := by decide +kernel
theorem dX14_init_218 : decode cX14_init 218 = .ok (.bipush 10, 2) := by decide +kernel
theorem dX14_init_220 : decode cX14_init 220 = .ok (.putfield 100, 3) := by decide +kernel
theorem dX14_init_223 : decode cX14_init 223 = .ok (.aload_n 0, 1) := by decide +kernel
theorem dX14_init_224 : decode cX14_init 224 = .ok (.bipush 10, 2) := by decide +kernel
theorem dX14_init_226 : decode cX14_init 226 = .ok (.newarray .int, 2) := by decide +kernel
theorem dX14_init_228 : decode cX14_init 228 = .ok (.putfield 103, 3) := by decide +kernel
theorem dX14_init_231 : decode cX14_init 231 = .ok (.aload_n 0, 1) := by decide +kernel
theorem dX14_init_232 : decode cX14_init 232 = .ok (.bipush 10, 2) := by decide +kernel
theorem dX14_init_234 : decode cX14_init 234 = .ok (.newarray .int, 2) := by decide +kernel
theorem dX14_init_236 : decode cX14_init 236 = .ok (.putfield 106, 3) := by decide +kernel
theorem dX14_init_239 : decode cX14_init 239 = .ok (.aload_n 0, 1) := by decide +kernel
theorem dX14_init_240 : decode cX14_init 240 = .ok (.bipush 10, 2) := by decide +kernel
theorem dX14_init_242 : decode cX14_init 242 = .ok (.newarray .int, 2) := by decide +kernel
theorem dX14_init_244 : decode cX14_init 244 = .ok (.putfield 109, 3) := by decide +kernel
theorem dX14_init_247 : decode cX14_init 247 = .ok (.return_, 1) := by decide +kernel
theorem dX14_refused_0 : decode cX14_refused 0 = .ok (.aload_n 0, 1) := by decide +kernel
theorem dX14_refused_1 : decode cX14_refused 1 = .ok (.iload_n 1, 1) := by decide +kernel
theorem dX14_refused_2 : decode cX14_refused 2 = .ok (.putfield 115, 3) := by decide +kernel
theorem dX14_refused_5 : decode cX14_refused 5 = .ok (.aload_n 0, 1) := by decide +kernel
theorem dX14_refused_6 : decode cX14_refused 6 = .ok (.iconst (-1), 1) := by decide +kernel
theorem dX14_refused_7 : decode cX14_refused 7 = .ok (.putfield 9, 3) := by decide +kernel
theorem dX14_refused_10 : decode cX14_refused 10 = .ok (.iconst (-1), 1) := by decide +kernel
theorem dX14_refused_11 : decode cX14_refused 11 = .ok (.ireturn, 1) := by decide +kernel
theorem dX14_denied_0 : decode cX14_denied 0 = .ok (.aload_n 0, 1) := by decide +kernel
theorem dX14_denied_1 : decode cX14_denied 1 = .ok (.iload_n 1, 1) := by decide +kernel
theorem dX14_denied_2 : decode cX14_denied 2 = .ok (.putfield 115, 3) := by decide +kernel
theorem dX14_denied_5 : decode cX14_denied 5 = .ok (.aload_n 0, 1) := by decide +kernel
theorem dX14_denied_6 : decode cX14_denied 6 = .ok (.iconst (-1), 1) := by decide +kernel
theorem dX14_denied_7 : decode cX14_denied 7 = .ok (.putfield 9, 3) := by decide +kernel
theorem dX14_denied_10 : decode cX14_denied 10 = .ok (.iconst 0, 1) := by decide +kernel
theorem dX14_denied_11 : decode cX14_denied 11 = .ok (.ireturn, 1) := by decide +kernel
theorem dX14_done_0 : decode cX14_done 0 = .ok (.aload_n 0, 1) := by decide +kernel
theorem dX14_done_1 : decode cX14_done 1 = .ok (.iconst 0, 1) := by decide +kernel
theorem dX14_done_2 : decode cX14_done 2 = .ok (.putfield 115, 3) := by decide +kernel
theorem dX14_done_5 : decode cX14_done 5 = .ok (.aload_n 0, 1) := by decide +kernel
theorem dX14_done_6 : decode cX14_done 6 = .ok (.iconst (-1), 1) := by decide +kernel
theorem dX14_done_7 : decode cX14_done 7 = .ok (.putfield 9, 3) := by decide +kernel
theorem dX14_done_10 : decode cX14_done 10 = .ok (.iload_n 1, 1) := by decide +kernel
theorem dX14_done_11 : decode cX14_done 11 = .ok (.ireturn, 1) := by decide +kernel
theorem dX14_granted_0 : decode cX14_granted 0 = .ok (.aload_n 0, 1) := by decide +kernel
theorem dX14_granted_1 : decode cX14_granted 1 = .ok (.iconst 0, 1) := by decide +kernel
theorem dX14_granted_2 : decode cX14_granted 2 = .ok (.putfield 115, 3) := by decide +kernel
theorem dX14_granted_5 : decode cX14_granted 5 = .ok (.aload_n 0, 1) := by decide +kernel
theorem dX14_granted_6 : decode cX14_granted 6 = .ok (.iconst (-1), 1) := by decide +kernel
theorem dX14_granted_7 : decode cX14_granted 7 = .ok (.putfield 9, 3) := by decide +kernel
theorem dX14_granted_10 : decode cX14_granted 10 = .ok (.iconst 1, 1) := by decide +kernel
theorem dX14_granted_11 : decode cX14_granted 11 = .ok (.ireturn, 1) := by decide +kernel
theorem dX14_in_0 : decode cX14_in 0 = .ok (.iload_n 0, 1) := by decide +kernel
theorem dX14_in_1 : decode cX14_in 1 = .ok (.iload_n 1, 1) := by decide +kernel
theorem dX14_in_2 : decode cX14_in 2 = .ok (.if_icmp .lt 12, 3) := by decide +kernel
theorem dX14_in_5 : decode cX14_in 5 = .ok (.iload_n 0, 1) := by decide +kernel
theorem dX14_in_6 : decode cX14_in 6 = .ok (.iload_n 2, 1) := by decide +kernel
theorem dX14_in_7 : decode cX14_in 7 = .ok (.if_icmp .gt 7, 3) := by decide +kernel
theorem dX14_in_10 : decode cX14_in 10 = .ok (.iconst 1, 1) := by decide +kernel
theorem dX14_in_11 : decode cX14_in 11 = .ok (.goto 4, 3) := by decide +kernel
theorem dX14_in_14 : decode cX14_in 14 = .ok (.iconst 0, 1) := by decide +kernel
theorem dX14_in_15 : decode cX14_in 15 = .ok (.ireturn, 1) := by decide +kernel
theorem dX14_will_0 : decode cX14_will 0 = .ok (.aload_n 0, 1) := by decide +kernel
theorem dX14_will_1 : decode cX14_will 1 = .ok (.iconst 0, 1) := by decide +kernel
theorem dX14_will_2 : decode cX14_will 2 = .ok (.putfield 112, 3) := by decide +kernel
theorem dX14_will_5 : decode cX14_will 5 = .ok (.aload_n 0, 1) := by decide +kernel
theorem dX14_will_6 : decode cX14_will 6 = .ok (.getfield 118, 3) := by decide +kernel
theorem dX14_will_9 : decode cX14_will 9 = .ok (.iconst 4, 1) := by decide +kernel
theorem dX14_will_10 : decode cX14_will 10 = .ok (.if_icmp .ne 9, 3) := by decide +kernel
theorem dX14_will_13 : decode cX14_will 13 = .ok (.aload_n 0, 1) := by decide +kernel
theorem dX14_will_14 : decode cX14_will 14 = .ok (.iconst 3, 1) := by decide +kernel
theorem dX14_will_15 : decode cX14_will 15 = .ok (.invokevirtual 121, 3) := by decide +kernel
theorem dX14_will_18 : decode cX14_will 18 = .ok (.ireturn, 1) := by decide +kernel
theorem dX14_will_19 : decode cX14_will 19 = .ok (.aload_n 0, 1) := by decide +kernel
theorem dX14_will_20 : decode cX14_will 20 = .ok (.dup, 1) := by decide +kernel
theorem dX14_will_21 : decode cX14_will 21 = .ok (.getfield 118, 3) := by decide +kernel
theorem dX14_will_24 : decode cX14_will 24 = .ok (.iconst 1, 1) := by decide +kernel
theorem dX14_will_25 : decode cX14_will 25 = .ok (.iadd, 1) := by decide +kernel
theorem dX14_will_26 : decode cX14_will 26 = .ok (.putfield 118, 3) := by decide +kernel
theorem dX14_will_29 : decode cX14_will 29 = .ok (.aload_n 0, 1) := by decide +kernel
theorem dX14_will_30 : decode cX14_will 30 = .ok (.aload_n 0, 1) := by decide +kernel
theorem dX14_will_31 : decode cX14_will 31 = .ok (.getfield 118, 3) := by decide +kernel
theorem dX14_will_34 : decode cX14_will 34 = .ok (.iconst 1, 1) := by decide +kernel
theorem dX14_will_35 : decode cX14_will 35 = .ok (.isub, 1) := by decide +kernel
theorem dX14_will_36 : decode cX14_will 36 = .ok (.invokevirtual 125, 3) := by decide +kernel
theorem dX14_will_39 : decode cX14_will 39 = .ok (.ireturn, 1) := by decide +kernel
theorem dX14_stop_0 : decode cX14_stop 0 = .ok (.aload_n 0, 1) := by decide +kernel
theorem dX14_stop_1 : decode cX14_stop 1 = .ok (.getfield 27, 3) := by decide +kernel
theorem dX14_stop_4 : decode cX14_stop 4 = .ok (.iload_n 1, 1) := by decide +kernel
theorem dX14_stop_5 : decode cX14_stop 5 = .ok (.putfield 128, 3) := by decide +kernel
theorem dX14_stop_8 : decode cX14_stop 8 = .ok (.aload_n 0, 1) := by decide +kernel
theorem dX14_stop_9 : decode cX14_stop 9 = .ok (.getfield 27, 3) := by decide +kernel
theorem dX14_stop_12 : decode cX14_stop 12 = .ok (.aload_n 0, 1) := by decide +kernel
theorem dX14_stop_13 : decode cX14_stop 13 = .ok (.getfield 131, 3) := by decide +kernel
theorem dX14_stop_16 : decode cX14_stop 16 = .ok (.putfield 134, 3) := by decide +kernel
theorem dX14_stop_19 : decode cX14_stop 19 = .ok (.aload_n 0, 1) := by decide +kernel
theorem dX14_stop_20 : decode cX14_stop 20 = .ok (.getfield 27, 3) := by decide +kernel
theorem dX14_stop_23 : decode cX14_stop 23 = .ok (.areturn, 1) := by decide +kernel
theorem dX14_byteAt_0 : decode cX14_byteAt 0 = .ok (.iload_n 1, 1) := by decide +kernel
theorem dX14_byteAt_1 : decode cX14_byteAt 1 = .ok (.aload_n 0, 1) := by decide +kernel
theorem dX14_byteAt_2 : decode cX14_byteAt 2 = .ok (.getfield 135, 3) := by decide +kernel
theorem dX14_byteAt_5 : decode cX14_byteAt 5 = .ok (.if_icmp .ge 16, 3) := by decide +kernel
theorem dX14_byteAt_8 : decode cX14_byteAt 8 = .ok (.aload_n 0, 1) := by decide +kernel
theorem dX14_byteAt_9 : decode cX14_byteAt 9 = .ok (.getfield 31, 3) := by decide +kernel
theorem dX14_byteAt_12 : decode cX14_byteAt 12 = .ok (.iload_n 1, 1) := by decide +kernel
theorem dX14_byteAt_13 : decode cX14_byteAt 13 = .ok (.baload, 1) := by decide +kernel
theorem dX14_byteAt_14 : decode cX14_byteAt 14 = .ok (.sipush 255, 3) := by decide +kernel
theorem dX14_byteAt_17 : decode cX14_byteAt 17 = .ok (.iand, 1) := by decide +kernel
theorem dX14_byteAt_18 : decode cX14_byteAt 18 = .ok (.goto 4, 3) := by decide +kernel
theorem dX14_byteAt_21 : decode cX14_byteAt 21 = .ok (.iconst (-1), 1) := by decide +kernel
theorem dX14_byteAt_22 : decode cX14_byteAt 22 = .ok (.ireturn, 1) := by decide +kernel
theorem dX14_isLetter_0 : decode cX14_isLetter 0 = .ok (.iload_n 0, 1) := by decide +kernel
theorem dX14_isLetter_1 : decode cX14_isLetter 1 = .ok (.bipush 97, 2) := by decide +kernel
theorem dX14_isLetter_3 : decode cX14_isLetter 3 = .ok (.if_icmp .lt 13, 3) := by decide +kernel
theorem dX14_isLetter_6 : decode cX14_isLetter 6 = .ok (.iload_n 0, 1) := by decide +kernel
theorem dX14_isLetter_7 : decode cX14_isLetter 7 = .ok (.bipush 122, 2) := by decide +kernel
theorem dX14_isLetter_9 : decode cX14_isLetter 9 = .ok (.if_icmp .gt 7, 3) := by decide +kernel
theorem dX14_isLetter_12 : decode cX14_isLetter 12 = .ok (.iconst 1, 1) := by decide +kernel
theorem dX14_isLetter_13 : decode cX14_isLetter 13 = .ok (.goto 4, 3) := by decide +kernel
theorem dX14_isLetter_16 : decode cX14_isLetter 16 = .ok (.iconst 0, 1) := by decide +kernel
theorem dX14_isLetter_17 : decode cX14_isLetter 17 = .ok (.ireturn, 1) := by decide +kernel
theorem dX14_isDigit_0 : decode cX14_isDigit 0 = .ok (.iload_n 0, 1) := by decide +kernel
theorem dX14_isDigit_1 : decode cX14_isDigit 1 = .ok (.bipush 48, 2) := by decide +kernel
theorem dX14_isDigit_3 : decode cX14_isDigit 3 = .ok (.if_icmp .lt 13, 3) := by decide +kernel
theorem dX14_isDigit_6 : decode cX14_isDigit 6 = .ok (.iload_n 0, 1) := by decide +kernel
theorem dX14_isDigit_7 : decode cX14_isDigit 7 = .ok (.bipush 57, 2) := by decide +kernel
theorem dX14_isDigit_9 : decode cX14_isDigit 9 = .ok (.if_icmp .gt 7, 3) := by decide +kernel
theorem dX14_isDigit_12 : decode cX14_isDigit 12 = .ok (.iconst 1, 1) := by decide +kernel
theorem dX14_isDigit_13 : decode cX14_isDigit 13 = .ok (.goto 4, 3) := by decide +kernel
theorem dX14_isDigit_16 : decode cX14_isDigit 16 = .ok (.iconst 0, 1) := by decide +kernel
theorem dX14_isDigit_17 : decode cX14_isDigit 17 = .ok (.ireturn, 1) := by decide +kernel
theorem dX14_wordOf_0 : decode cX14_wordOf 0 = .ok (.lconst 0, 1) := by decide +kernel
theorem dX14_wordOf_1 : decode cX14_wordOf 1 = .ok (.lstore_n 1, 1) := by decide +kernel
theorem dX14_wordOf_2 : decode cX14_wordOf 2 = .ok (.iconst 0, 1) := by decide +kernel
theorem dX14_wordOf_3 : decode cX14_wordOf 3 = .ok (.istore_n 3, 1) := by decide +kernel
theorem dX14_wordOf_4 : decode cX14_wordOf 4 = .ok (.iload_n 3, 1) := by decide +kernel
theorem dX14_wordOf_5 : decode cX14_wordOf 5 = .ok (.aload_n 0, 1) := by decide +kernel
theorem dX14_wordOf_6 : decode cX14_wordOf 6 = .ok (.invokevirtual 138, 3) := by decide +kernel
theorem dX14_wordOf_9 : decode cX14_wordOf 9 = .ok (.if_icmp .ge 27, 3) := by decide +kernel
theorem dX14_wordOf_12 : decode cX14_wordOf 12 = .ok (.ldc2_w 144, 3) := by decide +kernel
theorem dX14_wordOf_15 : decode cX14_wordOf 15 = .ok (.lload_n 1, 1) := by decide +kernel
theorem dX14_wordOf_16 : decode cX14_wordOf 16 = .ok (.lmul, 1) := by decide +kernel
theorem dX14_wordOf_17 : decode cX14_wordOf 17 = .ok (.aload_n 0, 1) := by decide +kernel
theorem dX14_wordOf_18 : decode cX14_wordOf 18 = .ok (.iload_n 3, 1) := by decide +kernel
theorem dX14_wordOf_19 : decode cX14_wordOf 19 = .ok (.invokevirtual 146, 3) := by decide +kernel
theorem dX14_wordOf_22 : decode cX14_wordOf 22 = .ok (.bipush 97, 2) := by decide +kernel
theorem dX14_wordOf_24 : decode cX14_wordOf 24 = .ok (.isub, 1) := by decide +kernel
theorem dX14_wordOf_25 : decode cX14_wordOf 25 = .ok (.iconst 1, 1) := by decide +kernel
theorem dX14_wordOf_26 : decode cX14_wordOf 26 = .ok (.iadd, 1) := by decide +kernel
theorem dX14_wordOf_27 : decode cX14_wordOf 27 = .ok (.i2l, 1) := by decide +kernel
theorem dX14_wordOf_28 : decode cX14_wordOf 28 = .ok (.ladd, 1) := by decide +kernel
theorem dX14_wordOf_29 : decode cX14_wordOf 29 = .ok (.lstore_n 1, 1) := by decide +kernel
theorem dX14_wordOf_30 : decode cX14_wordOf 30 = .ok (.iinc 3 1, 3) := by decide +kernel
theorem dX14_wordOf_33 : decode cX14_wordOf 33 = .ok (.goto (-29), 3) := by decide +kernel
theorem dX14_wordOf_36 : decode cX14_wordOf 36 = .ok (.lload_n 1, 1) := by decide +kernel
theorem dX14_wordOf_37 : decode cX14_wordOf 37 = .ok (.lreturn, 1) := by decide +kernel
theorem dX14_next_0 : decode cX14_next 0 = .ok (.aload_n 0, 1) := by decide +kernel
theorem dX14_next_1 : decode cX14_next 1 = .ok (.aload_n 0, 1) := by decide +kernel
theorem dX14_next_2 : decode cX14_next 2 = .ok (.getfield 150, 3) := by decide +kernel
theorem dX14_next_5 : decode cX14_next 5 = .ok (.invokevirtual 153, 3) := by decide +kernel
theorem dX14_next_8 : decode cX14_next 8 = .ok (.bipush 32, 2) := by decide +kernel
theorem dX14_next_10 : decode cX14_next 10 = .ok (.if_icmp .ne 16, 3) := by decide +kernel
theorem dX14_next_13 : decode cX14_next 13 = .ok (.aload_n 0, 1) := by decide +kernel
theorem dX14_next_14 : decode cX14_next 14 = .ok (.dup, 1) := by decide +kernel
theorem dX14_next_15 : decode cX14_next 15 = .ok (.getfield 150, 3) := by decide +kernel
theorem dX14_next_18 : decode cX14_next 18 = .ok (.iconst 1, 1) := by decide +kernel
theorem dX14_next_19 : decode cX14_next 19 = .ok (.iadd, 1) := by decide +kernel
theorem dX14_next_20 : decode cX14_next 20 = .ok (.putfield 150, 3) := by decide +kernel
theorem dX14_next_23 : decode cX14_next 23 = .ok (.goto (-23), 3) := by decide +kernel
theorem dX14_next_26 : decode cX14_next 26 = .ok (.aload_n 0, 1) := by decide +kernel
theorem dX14_next_27 : decode cX14_next 27 = .ok (.aload_n 0, 1) := by decide +kernel
theorem dX14_next_28 : decode cX14_next 28 = .ok (.getfield 150, 3) := by decide +kernel
theorem dX14_next_31 : decode cX14_next 31 = .ok (.putfield 131, 3) := by decide +kernel
theorem dX14_next_34 : decode cX14_next 34 = .ok (.aload_n 0, 1) := by decide +kernel
theorem dX14_next_35 : decode cX14_next 35 = .ok (.iconst 0, 1) := by decide +kernel
theorem dX14_next_36 : decode cX14_next 36 = .ok (.putfield 156, 3) := by decide +kernel
theorem dX14_next_39 : decode cX14_next 39 = .ok (.aload_n 0, 1) := by decide +kernel
theorem dX14_next_40 : decode cX14_next 40 = .ok (.iconst 0, 1) := by decide +kernel
theorem dX14_next_41 : decode cX14_next 41 = .ok (.putfield 159, 3) := by decide +kernel
theorem dX14_next_44 : decode cX14_next 44 = .ok (.aload_n 0, 1) := by decide +kernel
theorem dX14_next_45 : decode cX14_next 45 = .ok (.aload_n 0, 1) := by decide +kernel
theorem dX14_next_46 : decode cX14_next 46 = .ok (.getfield 150, 3) := by decide +kernel
theorem dX14_next_49 : decode cX14_next 49 = .ok (.invokevirtual 153, 3) := by decide +kernel
theorem dX14_next_52 : decode cX14_next 52 = .ok (.istore_n 1, 1) := by decide +kernel
theorem dX14_next_53 : decode cX14_next 53 = .ok (.iconst 0, 1) := by decide +kernel
theorem dX14_next_54 : decode cX14_next 54 = .ok (.istore_n 2, 1) := by decide +kernel
theorem dX14_next_55 : decode cX14_next 55 = .ok (.iload_n 1, 1) := by decide +kernel
theorem dX14_next_56 : decode cX14_next 56 = .ok (.iconst (-1), 1) := by decide +kernel
theorem dX14_next_57 : decode cX14_next 57 = .ok (.if_icmp .ne 11, 3) := by decide +kernel
theorem dX14_next_60 : decode cX14_next 60 = .ok (.aload_n 0, 1) := by decide +kernel
theorem dX14_next_61 : decode cX14_next 61 = .ok (.iconst 1, 1) := by decide +kernel
theorem dX14_next_62 : decode cX14_next 62 = .ok (.putfield 156, 3) := by decide +kernel
theorem dX14_next_65 : decode cX14_next 65 = .ok (.goto 243, 3) := by decide +kernel
theorem dX14_next_68 : decode cX14_next 68 = .ok (.iload_n 1, 1) := by decide +kernel
theorem dX14_next_69 : decode cX14_next 69 = .ok (.invokestatic 162, 3) := by decide +kernel
theorem dX14_next_72 : decode cX14_next 72 = .ok (.ifCond .eq 85, 3) := by decide +kernel
theorem dX14_next_75 : decode cX14_next 75 = .ok (.aload_n 0, 1) := by decide +kernel
theorem dX14_next_76 : decode cX14_next 76 = .ok (.lconst 0, 1) := by decide +kernel
theorem dX14_next_77 : decode cX14_next 77 = .ok (.putfield 166, 3) := by decide +kernel
theorem dX14_next_80 : decode cX14_next 80 = .ok (.aload_n 0, 1) := by decide +kernel
theorem dX14_next_81 : decode cX14_next 81 = .ok (.aload_n 0, 1) := by decide +kernel
theorem dX14_next_82 : decode cX14_next 82 = .ok (.getfield 150, 3) := by decide +kernel
theorem dX14_next_85 : decode cX14_next 85 = .ok (.invokevirtual 153, 3) := by decide +kernel
theorem dX14_next_88 : decode cX14_next 88 = .ok (.invokestatic 162, 3) := by decide +kernel
theorem dX14_next_91 : decode cX14_next 91 = .ok (.ifCond .eq 52, 3) := by decide +kernel
theorem dX14_next_94 : decode cX14_next 94 = .ok (.iload_n 2, 1) := by decide +kernel
theorem dX14_next_95 : decode cX14_next 95 = .ok (.bipush 8, 2) := by decide +kernel
theorem dX14_next_97 : decode cX14_next 97 = .ok (.if_icmp .ge 30, 3) := by decide +kernel
theorem dX14_next_100 : decode cX14_next 100 = .ok (.aload_n 0, 1) := by decide +kernel
theorem dX14_next_101 : decode cX14_next 101 = .ok (.ldc2_w 144, 3) := by decide +kernel
theorem dX14_next_104 : decode cX14_next 104 = .ok (.aload_n 0, 1) := by decide +kernel
theorem dX14_next_105 : decode cX14_next 105 = .ok (.getfield 166, 3) := by decide +kernel
theorem dX14_next_108 : decode cX14_next 108 = .ok (.lmul, 1) := by decide +kernel
theorem dX14_next_109 : decode cX14_next 109 = .ok (.aload_n 0, 1) := by decide +kernel
theorem dX14_next_110 : decode cX14_next 110 = .ok (.aload_n 0, 1) := by decide +kernel
theorem dX14_next_111 : decode cX14_next 111 = .ok (.getfield 150, 3) := by decide +kernel
theorem dX14_next_114 : decode cX14_next 114 = .ok (.invokevirtual 153, 3) := by decide +kernel
theorem dX14_next_117 : decode cX14_next 117 = .ok (.bipush 97, 2) := by decide +kernel
theorem dX14_next_119 : decode cX14_next 119 = .ok (.isub, 1) := by decide +kernel
theorem dX14_next_120 : decode cX14_next 120 = .ok (.iconst 1, 1) := by decide +kernel
theorem dX14_next_121 : decode cX14_next 121 = .ok (.iadd, 1) := by decide +kernel
theorem dX14_next_122 : decode cX14_next 122 = .ok (.i2l, 1) := by decide +kernel
theorem dX14_next_123 : decode cX14_next 123 = .ok (.ladd, 1) := by decide +kernel
theorem dX14_next_124 : decode cX14_next 124 = .ok (.putfield 166, 3) := by decide +kernel
theorem dX14_next_127 : decode cX14_next 127 = .ok (.iinc 2 1, 3) := by decide +kernel
theorem dX14_next_130 : decode cX14_next 130 = .ok (.aload_n 0, 1) := by decide +kernel
theorem dX14_next_131 : decode cX14_next 131 = .ok (.dup, 1) := by decide +kernel
theorem dX14_next_132 : decode cX14_next 132 = .ok (.getfield 150, 3) := by decide +kernel
theorem dX14_next_135 : decode cX14_next 135 = .ok (.iconst 1, 1) := by decide +kernel
theorem dX14_next_136 : decode cX14_next 136 = .ok (.iadd, 1) := by decide +kernel
theorem dX14_next_137 : decode cX14_next 137 = .ok (.putfield 150, 3) := by decide +kernel
theorem dX14_next_140 : decode cX14_next 140 = .ok (.goto (-60), 3) := by decide +kernel
theorem dX14_next_143 : decode cX14_next 143 = .ok (.iload_n 2, 1) := by decide +kernel
theorem dX14_next_144 : decode cX14_next 144 = .ok (.bipush 9, 2) := by decide +kernel
theorem dX14_next_146 : decode cX14_next 146 = .ok (.if_icmp .ge 162, 3) := by decide +kernel
theorem dX14_next_149 : decode cX14_next 149 = .ok (.aload_n 0, 1) := by decide +kernel
theorem dX14_next_150 : decode cX14_next 150 = .ok (.iconst 2, 1) := by decide +kernel
theorem dX14_next_151 : decode cX14_next 151 = .ok (.putfield 156, 3) := by decide +kernel
theorem dX14_next_154 : decode cX14_next 154 = .ok (.goto 154, 3) := by decide +kernel
theorem dX14_next_157 : decode cX14_next 157 = .ok (.iload_n 1, 1) := by decide +kernel
theorem dX14_next_158 : decode cX14_next 158 = .ok (.invokestatic 170, 3) := by decide +kernel
theorem dX14_next_161 : decode cX14_next 161 = .ok (.ifCond .eq 79, 3) := by decide +kernel
theorem dX14_next_164 : decode cX14_next 164 = .ok (.aload_n 0, 1) := by decide +kernel
theorem dX14_next_165 : decode cX14_next 165 = .ok (.iconst 0, 1) := by decide +kernel
theorem dX14_next_166 : decode cX14_next 166 = .ok (.putfield 173, 3) := by decide +kernel
theorem dX14_next_169 : decode cX14_next 169 = .ok (.aload_n 0, 1) := by decide +kernel
theorem dX14_next_170 : decode cX14_next 170 = .ok (.aload_n 0, 1) := by decide +kernel
theorem dX14_next_171 : decode cX14_next 171 = .ok (.getfield 150, 3) := by decide +kernel
theorem dX14_next_174 : decode cX14_next 174 = .ok (.invokevirtual 153, 3) := by decide +kernel
theorem dX14_next_177 : decode cX14_next 177 = .ok (.invokestatic 170, 3) := by decide +kernel
theorem dX14_next_180 : decode cX14_next 180 = .ok (.ifCond .eq 47, 3) := by decide +kernel
theorem dX14_next_183 : decode cX14_next 183 = .ok (.iload_n 2, 1) := by decide +kernel
theorem dX14_next_184 : decode cX14_next 184 = .ok (.iconst 4, 1) := by decide +kernel
theorem dX14_next_185 : decode cX14_next 185 = .ok (.if_icmp .ge 26, 3) := by decide +kernel
theorem dX14_next_188 : decode cX14_next 188 = .ok (.aload_n 0, 1) := by decide +kernel
theorem dX14_next_189 : decode cX14_next 189 = .ok (.bipush 10, 2) := by decide +kernel
theorem dX14_next_191 : decode cX14_next 191 = .ok (.aload_n 0, 1) := by decide +kernel
theorem dX14_next_192 : decode cX14_next 192 = .ok (.getfield 173, 3) := by decide +kernel
theorem dX14_next_195 : decode cX14_next 195 = .ok (.imul, 1) := by decide +kernel
theorem dX14_next_196 : decode cX14_next 196 = .ok (.aload_n 0, 1) := by decide +kernel
theorem dX14_next_197 : decode cX14_next 197 = .ok (.aload_n 0, 1) := by decide +kernel
theorem dX14_next_198 : decode cX14_next 198 = .ok (.getfield 150, 3) := by decide +kernel
theorem dX14_next_201 : decode cX14_next 201 = .ok (.invokevirtual 153, 3) := by decide +kernel
theorem dX14_next_204 : decode cX14_next 204 = .ok (.iadd, 1) := by decide +kernel
theorem dX14_next_205 : decode cX14_next 205 = .ok (.bipush 48, 2) := by decide +kernel
theorem dX14_next_207 : decode cX14_next 207 = .ok (.isub, 1) := by decide +kernel
theorem dX14_next_208 : decode cX14_next 208 = .ok (.putfield 173, 3) := by decide +kernel
theorem dX14_next_211 : decode cX14_next 211 = .ok (.iinc 2 1, 3) := by decide +kernel
theorem dX14_next_214 : decode cX14_next 214 = .ok (.aload_n 0, 1) := by decide +kernel
theorem dX14_next_215 : decode cX14_next 215 = .ok (.dup, 1) := by decide +kernel
theorem dX14_next_216 : decode cX14_next 216 = .ok (.getfield 150, 3) := by decide +kernel
theorem dX14_next_219 : decode cX14_next 219 = .ok (.iconst 1, 1) := by decide +kernel
theorem dX14_next_220 : decode cX14_next 220 = .ok (.iadd, 1) := by decide +kernel
theorem dX14_next_221 : decode cX14_next 221 = .ok (.putfield 150, 3) := by decide +kernel
theorem dX14_next_224 : decode cX14_next 224 = .ok (.goto (-55), 3) := by decide +kernel
theorem dX14_next_227 : decode cX14_next 227 = .ok (.iload_n 2, 1) := by decide +kernel
theorem dX14_next_228 : decode cX14_next 228 = .ok (.iconst 5, 1) := by decide +kernel
theorem dX14_next_229 : decode cX14_next 229 = .ok (.if_icmp .ge 79, 3) := by decide +kernel
theorem dX14_next_232 : decode cX14_next 232 = .ok (.aload_n 0, 1) := by decide +kernel
theorem dX14_next_233 : decode cX14_next 233 = .ok (.iconst 3, 1) := by decide +kernel
theorem dX14_next_234 : decode cX14_next 234 = .ok (.putfield 156, 3) := by decide +kernel
theorem dX14_next_237 : decode cX14_next 237 = .ok (.goto 71, 3) := by decide +kernel
theorem dX14_next_240 : decode cX14_next 240 = .ok (.iload_n 1, 1) := by decide +kernel
theorem dX14_next_241 : decode cX14_next 241 = .ok (.bipush 60, 2) := by decide +kernel
theorem dX14_next_243 : decode cX14_next 243 = .ok (.if_icmp .eq 45, 3) := by decide +kernel
theorem dX14_next_246 : decode cX14_next 246 = .ok (.iload_n 1, 1) := by decide +kernel
theorem dX14_next_247 : decode cX14_next 247 = .ok (.bipush 62, 2) := by decide +kernel
theorem dX14_next_249 : decode cX14_next 249 = .ok (.if_icmp .eq 39, 3) := by decide +kernel
theorem dX14_next_252 : decode cX14_next 252 = .ok (.iload_n 1, 1) := by decide +kernel
theorem dX14_next_253 : decode cX14_next 253 = .ok (.bipush 61, 2) := by decide +kernel
theorem dX14_next_255 : decode cX14_next 255 = .ok (.if_icmp .eq 33, 3) := by decide +kernel
theorem dX14_next_258 : decode cX14_next 258 = .ok (.iload_n 1, 1) := by decide +kernel
theorem dX14_next_259 : decode cX14_next 259 = .ok (.bipush 40, 2) := by decide +kernel
theorem dX14_next_261 : decode cX14_next 261 = .ok (.if_icmp .eq 27, 3) := by decide +kernel
theorem dX14_next_264 : decode cX14_next 264 = .ok (.iload_n 1, 1) := by decide +kernel
theorem dX14_next_265 : decode cX14_next 265 = .ok (.bipush 41, 2) := by decide +kernel
theorem dX14_next_267 : decode cX14_next 267 = .ok (.if_icmp .eq 21, 3) := by decide +kernel
theorem dX14_next_270 : decode cX14_next 270 = .ok (.iload_n 1, 1) := by decide +kernel
theorem dX14_next_271 : decode cX14_next 271 = .ok (.bipush 43, 2) := by decide +kernel
theorem dX14_next_273 : decode cX14_next 273 = .ok (.if_icmp .eq 15, 3) := by decide +kernel
theorem dX14_next_276 : decode cX14_next 276 = .ok (.iload_n 1, 1) := by decide +kernel
theorem dX14_next_277 : decode cX14_next 277 = .ok (.bipush 42, 2) := by decide +kernel
theorem dX14_next_279 : decode cX14_next 279 = .ok (.if_icmp .eq 9, 3) := by decide +kernel
theorem dX14_next_282 : decode cX14_next 282 = .ok (.iload_n 1, 1) := by decide +kernel
theorem dX14_next_283 : decode cX14_next 283 = .ok (.bipush 59, 2) := by decide +kernel
theorem dX14_next_285 : decode cX14_next 285 = .ok (.if_icmp .ne 23, 3) := by decide +kernel
theorem dX14_next_288 : decode cX14_next 288 = .ok (.aload_n 0, 1) := by decide +kernel
theorem dX14_next_289 : decode cX14_next 289 = .ok (.iconst 4, 1) := by decide +kernel
theorem dX14_next_290 : decode cX14_next 290 = .ok (.putfield 156, 3) := by decide +kernel
theorem dX14_next_293 : decode cX14_next 293 = .ok (.aload_n 0, 1) := by decide +kernel
theorem dX14_next_294 : decode cX14_next 294 = .ok (.iload_n 1, 1) := by decide +kernel
theorem dX14_next_295 : decode cX14_next 295 = .ok (.putfield 159, 3) := by decide +kernel
theorem dX14_next_298 : decode cX14_next 298 = .ok (.aload_n 0, 1) := by decide +kernel
theorem dX14_next_299 : decode cX14_next 299 = .ok (.dup, 1) := by decide +kernel
theorem dX14_next_300 : decode cX14_next 300 = .ok (.getfield 150, 3) := by decide +kernel
theorem dX14_next_303 : decode cX14_next 303 = .ok (.iconst 1, 1) := by decide +kernel
theorem dX14_next_304 : decode cX14_next 304 = .ok (.iadd, 1) := by decide +kernel
theorem dX14_next_305 : decode cX14_next 305 = .ok (.putfield 150, 3) := by decide +kernel
theorem dX14_next_308 : decode cX14_next 308 = .ok (.return_, 1) := by decide +kernel
theorem dX14_isWord_0 : decode cX14_isWord 0 = .ok (.aload_n 0, 1) := by decide +kernel
theorem dX14_isWord_1 : decode cX14_isWord 1 = .ok (.getfield 156, 3) := by decide +kernel
theorem dX14_isWord_4 : decode cX14_isWord 4 = .ok (.iconst 2, 1) := by decide +kernel
theorem dX14_isWord_5 : decode cX14_isWord 5 = .ok (.if_icmp .ne 19, 3) := by decide +kernel
theorem dX14_isWord_8 : decode cX14_isWord 8 = .ok (.aload_n 0, 1) := by decide +kernel
theorem dX14_isWord_9 : decode cX14_isWord 9 = .ok (.getfield 166, 3) := by decide +kernel
theorem dX14_isWord_12 : decode cX14_isWord 12 = .ok (.aload_n 1, 1) := by decide +kernel
theorem dX14_isWord_13 : decode cX14_isWord 13 = .ok (.invokestatic 176, 3) := by decide +kernel
