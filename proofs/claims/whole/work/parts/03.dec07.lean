theorem dX14_bars_6 : decode cX14_bars 6 = .ok (.iload_n 1, 1) := by decide +kernel
theorem dX14_bars_7 : decode cX14_bars 7 = .ok (.iload_n 2, 1) := by decide +kernel
theorem dX14_bars_8 : decode cX14_bars 8 = .ok (.iload_n 3, 1) := by decide +kernel
theorem dX14_bars_9 : decode cX14_bars 9 = .ok (.invokevirtual 343, 3) := by decide +kernel
theorem dX14_bars_12 : decode cX14_bars 12 = .ok (.ifCond .eq 13, 3) := by decide +kernel
theorem dX14_bars_15 : decode cX14_bars 15 = .ok (.aload_n 0, 1) := by decide +kernel
theorem dX14_bars_16 : decode cX14_bars 16 = .ok (.iload_n 1, 1) := by decide +kernel
theorem dX14_bars_17 : decode cX14_bars 17 = .ok (.iload_n 2, 1) := by decide +kernel
theorem dX14_bars_18 : decode cX14_bars 18 = .ok (.iload_n 3, 1) := by decide +kernel
theorem dX14_bars_19 : decode cX14_bars 19 = .ok (.invokevirtual 340, 3) := by decide +kernel
theorem dX14_bars_22 : decode cX14_bars 22 = .ok (.goto 4, 3) := by decide +kernel
theorem dX14_bars_25 : decode cX14_bars 25 = .ok (.iconst (-1), 1) := by decide +kernel
theorem dX14_bars_26 : decode cX14_bars 26 = .ok (.ireturn, 1) := by decide +kernel
theorem dX14_orderOf_0 : decode cX14_orderOf 0 = .ok (.aload_n 0, 1) := by decide +kernel
theorem dX14_orderOf_1 : decode cX14_orderOf 1 = .ok (.iload_n 2, 1) := by decide +kernel
theorem dX14_orderOf_2 : decode cX14_orderOf 2 = .ok (.iconst 0, 1) := by decide +kernel
theorem dX14_orderOf_3 : decode cX14_orderOf 3 = .ok (.iload_n 3, 1) := by decide +kernel
theorem dX14_orderOf_4 : decode cX14_orderOf 4 = .ok (.invokevirtual 301, 3) := by decide +kernel
theorem dX14_orderOf_7 : decode cX14_orderOf 7 = .ok (.ifCond .ne 5, 3) := by decide +kernel
theorem dX14_orderOf_10 : decode cX14_orderOf 10 = .ok (.iconst 0, 1) := by decide +kernel
theorem dX14_orderOf_11 : decode cX14_orderOf 11 = .ok (.ireturn, 1) := by decide +kernel
theorem dX14_orderOf_12 : decode cX14_orderOf 12 = .ok (.aload_n 0, 1) := by decide +kernel
theorem dX14_orderOf_13 : decode cX14_orderOf 13 = .ok (.getfield 15, 3) := by decide +kernel
theorem dX14_orderOf_16 : decode cX14_orderOf 16 = .ok (.aload_n 0, 1) := by decide +kernel
theorem dX14_orderOf_17 : decode cX14_orderOf 17 = .ok (.getfield 295, 3) := by decide +kernel
theorem dX14_orderOf_20 : decode cX14_orderOf 20 = .ok (.aaload, 1) := by decide +kernel
theorem dX14_orderOf_21 : decode cX14_orderOf 21 = .ok (.astore 4, 2) := by decide +kernel
theorem dX14_orderOf_23 : decode cX14_orderOf 23 = .ok (.iconst 0, 1) := by decide +kernel
theorem dX14_orderOf_24 : decode cX14_orderOf 24 = .ok (.istore 5, 2) := by decide +kernel
theorem dX14_orderOf_26 : decode cX14_orderOf 26 = .ok (.iconst 4, 1) := by decide +kernel
theorem dX14_orderOf_27 : decode cX14_orderOf 27 = .ok (.aload_n 0, 1) := by decide +kernel
theorem dX14_orderOf_28 : decode cX14_orderOf 28 = .ok (.getfield 298, 3) := by decide +kernel
theorem dX14_orderOf_31 : decode cX14_orderOf 31 = .ok (.imul, 1) := by decide +kernel
theorem dX14_orderOf_32 : decode cX14_orderOf 32 = .ok (.istore 6, 2) := by decide +kernel
theorem dX14_orderOf_34 : decode cX14_orderOf 34 = .ok (.iload 6, 2) := by decide +kernel
theorem dX14_orderOf_36 : decode cX14_orderOf 36 = .ok (.iconst 4, 1) := by decide +kernel
theorem dX14_orderOf_37 : decode cX14_orderOf 37 = .ok (.aload_n 0, 1) := by decide +kernel
theorem dX14_orderOf_38 : decode cX14_orderOf 38 = .ok (.getfield 298, 3) := by decide +kernel
theorem dX14_orderOf_41 : decode cX14_orderOf 41 = .ok (.imul, 1) := by decide +kernel
theorem dX14_orderOf_42 : decode cX14_orderOf 42 = .ok (.aload 4, 2) := by decide +kernel
theorem dX14_orderOf_44 : decode cX14_orderOf 44 = .ok (.getfield 228, 3) := by decide +kernel
theorem dX14_orderOf_47 : decode cX14_orderOf 47 = .ok (.aload_n 0, 1) := by decide +kernel
theorem dX14_orderOf_48 : decode cX14_orderOf 48 = .ok (.getfield 298, 3) := by decide +kernel
theorem dX14_orderOf_51 : decode cX14_orderOf 51 = .ok (.iaload, 1) := by decide +kernel
theorem dX14_orderOf_52 : decode cX14_orderOf 52 = .ok (.iadd, 1) := by decide +kernel
theorem dX14_orderOf_53 : decode cX14_orderOf 53 = .ok (.if_icmp .ge 53, 3) := by decide +kernel
theorem dX14_orderOf_56 : decode cX14_orderOf 56 = .ok (.iload 5, 2) := by decide +kernel
theorem dX14_orderOf_58 : decode cX14_orderOf 58 = .ok (.aload 4, 2) := by decide +kernel
theorem dX14_orderOf_60 : decode cX14_orderOf 60 = .ok (.getfield 264, 3) := by decide +kernel
theorem dX14_orderOf_63 : decode cX14_orderOf 63 = .ok (.iload 6, 2) := by decide +kernel
theorem dX14_orderOf_65 : decode cX14_orderOf 65 = .ok (.iaload, 1) := by decide +kernel
theorem dX14_orderOf_66 : decode cX14_orderOf 66 = .ok (.aload 4, 2) := by decide +kernel
theorem dX14_orderOf_68 : decode cX14_orderOf 68 = .ok (.getfield 267, 3) := by decide +kernel
theorem dX14_orderOf_71 : decode cX14_orderOf 71 = .ok (.iload 6, 2) := by decide +kernel
theorem dX14_orderOf_73 : decode cX14_orderOf 73 = .ok (.iaload, 1) := by decide +kernel
theorem dX14_orderOf_74 : decode cX14_orderOf 74 = .ok (.iconst (-1), 1) := by decide +kernel
theorem dX14_orderOf_75 : decode cX14_orderOf 75 = .ok (.if_icmp .ne 7, 3) := by decide +kernel
theorem dX14_orderOf_78 : decode cX14_orderOf 78 = .ok (.iconst 1, 1) := by decide +kernel
theorem dX14_orderOf_79 : decode cX14_orderOf 79 = .ok (.goto 17, 3) := by decide +kernel
theorem dX14_orderOf_82 : decode cX14_orderOf 82 = .ok (.aload_n 0, 1) := by decide +kernel
theorem dX14_orderOf_83 : decode cX14_orderOf 83 = .ok (.iload_n 1, 1) := by decide +kernel
theorem dX14_orderOf_84 : decode cX14_orderOf 84 = .ok (.iload_n 3, 1) := by decide +kernel
theorem dX14_orderOf_85 : decode cX14_orderOf 85 = .ok (.aload 4, 2) := by decide +kernel
theorem dX14_orderOf_87 : decode cX14_orderOf 87 = .ok (.getfield 267, 3) := by decide +kernel
theorem dX14_orderOf_90 : decode cX14_orderOf 90 = .ok (.iload 6, 2) := by decide +kernel
theorem dX14_orderOf_92 : decode cX14_orderOf 92 = .ok (.iaload, 1) := by decide +kernel
theorem dX14_orderOf_93 : decode cX14_orderOf 93 = .ok (.invokevirtual 323, 3) := by decide +kernel
theorem dX14_orderOf_96 : decode cX14_orderOf 96 = .ok (.imul, 1) := by decide +kernel
theorem dX14_orderOf_97 : decode cX14_orderOf 97 = .ok (.iadd, 1) := by decide +kernel
theorem dX14_orderOf_98 : decode cX14_orderOf 98 = .ok (.istore 5, 2) := by decide +kernel
theorem dX14_orderOf_100 : decode cX14_orderOf 100 = .ok (.iinc 6 1, 3) := by decide +kernel
theorem dX14_orderOf_103 : decode cX14_orderOf 103 = .ok (.goto (-69), 3) := by decide +kernel
theorem dX14_orderOf_106 : decode cX14_orderOf 106 = .ok (.iload 5, 2) := by decide +kernel
theorem dX14_orderOf_108 : decode cX14_orderOf 108 = .ok (.ireturn, 1) := by decide +kernel
theorem dX14_order_0 : decode cX14_order 0 = .ok (.aload_n 0, 1) := by decide +kernel
theorem dX14_order_1 : decode cX14_order 1 = .ok (.iconst 0, 1) := by decide +kernel
theorem dX14_order_2 : decode cX14_order 2 = .ok (.putfield 112, 3) := by decide +kernel
theorem dX14_order_5 : decode cX14_order 5 = .ok (.aload_n 0, 1) := by decide +kernel
theorem dX14_order_6 : decode cX14_order 6 = .ok (.iload_n 1, 1) := by decide +kernel
theorem dX14_order_7 : decode cX14_order 7 = .ok (.iload_n 2, 1) := by decide +kernel
theorem dX14_order_8 : decode cX14_order 8 = .ok (.iload_n 3, 1) := by decide +kernel
theorem dX14_order_9 : decode cX14_order 9 = .ok (.invokevirtual 343, 3) := by decide +kernel
theorem dX14_order_12 : decode cX14_order 12 = .ok (.ifCond .eq 13, 3) := by decide +kernel
theorem dX14_order_15 : decode cX14_order 15 = .ok (.aload_n 0, 1) := by decide +kernel
theorem dX14_order_16 : decode cX14_order 16 = .ok (.iload_n 1, 1) := by decide +kernel
theorem dX14_order_17 : decode cX14_order 17 = .ok (.iload_n 2, 1) := by decide +kernel
theorem dX14_order_18 : decode cX14_order 18 = .ok (.iload_n 3, 1) := by decide +kernel
theorem dX14_order_19 : decode cX14_order 19 = .ok (.invokevirtual 349, 3) := by decide +kernel
theorem dX14_order_22 : decode cX14_order 22 = .ok (.goto 4, 3) := by decide +kernel
theorem dX14_order_25 : decode cX14_order 25 = .ok (.iconst (-1), 1) := by decide +kernel
theorem dX14_order_26 : decode cX14_order 26 = .ok (.ireturn, 1) := by decide +kernel
theorem dX14_list_0 : decode cX14_list 0 = .ok (.aload_n 0, 1) := by decide +kernel
theorem dX14_list_1 : decode cX14_list 1 = .ok (.iconst 0, 1) := by decide +kernel
theorem dX14_list_2 : decode cX14_list 2 = .ok (.putfield 112, 3) := by decide +kernel
theorem dX14_list_5 : decode cX14_list 5 = .ok (.aload_n 0, 1) := by decide +kernel
theorem dX14_list_6 : decode cX14_list 6 = .ok (.iload_n 1, 1) := by decide +kernel
theorem dX14_list_7 : decode cX14_list 7 = .ok (.invokevirtual 274, 3) := by decide +kernel
theorem dX14_list_10 : decode cX14_list 10 = .ok (.ifCond .eq 10, 3) := by decide +kernel
theorem dX14_list_13 : decode cX14_list 13 = .ok (.iload_n 2, 1) := by decide +kernel
theorem dX14_list_14 : decode cX14_list 14 = .ok (.invokestatic 277, 3) := by decide +kernel
theorem dX14_list_17 : decode cX14_list 17 = .ok (.ifCond .ne 5, 3) := by decide +kernel
theorem dX14_list_20 : decode cX14_list 20 = .ok (.iconst (-1), 1) := by decide +kernel
theorem dX14_list_21 : decode cX14_list 21 = .ok (.ireturn, 1) := by decide +kernel
theorem dX14_list_22 : decode cX14_list 22 = .ok (.iconst 0, 1) := by decide +kernel
theorem dX14_list_23 : decode cX14_list 23 = .ok (.istore_n 3, 1) := by decide +kernel
theorem dX14_list_24 : decode cX14_list 24 = .ok (.iconst 0, 1) := by decide +kernel
theorem dX14_list_25 : decode cX14_list 25 = .ok (.istore 4, 2) := by decide +kernel
theorem dX14_list_27 : decode cX14_list 27 = .ok (.iload 4, 2) := by decide +kernel
theorem dX14_list_29 : decode cX14_list 29 = .ok (.aload_n 0, 1) := by decide +kernel
theorem dX14_list_30 : decode cX14_list 30 = .ok (.getfield 308, 3) := by decide +kernel
theorem dX14_list_33 : decode cX14_list 33 = .ok (.if_icmp .ge 28, 3) := by decide +kernel
theorem dX14_list_36 : decode cX14_list 36 = .ok (.iload_n 3, 1) := by decide +kernel
theorem dX14_list_37 : decode cX14_list 37 = .ok (.aload_n 0, 1) := by decide +kernel
theorem dX14_list_38 : decode cX14_list 38 = .ok (.iload 4, 2) := by decide +kernel
theorem dX14_list_40 : decode cX14_list 40 = .ok (.iload_n 1, 1) := by decide +kernel
theorem dX14_list_41 : decode cX14_list 41 = .ok (.iload_n 2, 1) := by decide +kernel
theorem dX14_list_42 : decode cX14_list 42 = .ok (.invokevirtual 346, 3) := by decide +kernel
theorem dX14_list_45 : decode cX14_list 45 = .ok (.ifCond .eq 7, 3) := by decide +kernel
theorem dX14_list_48 : decode cX14_list 48 = .ok (.iconst 1, 1) := by decide +kernel
theorem dX14_list_49 : decode cX14_list 49 = .ok (.goto 4, 3) := by decide +kernel
theorem dX14_list_52 : decode cX14_list 52 = .ok (.iconst 0, 1) := by decide +kernel
theorem dX14_list_53 : decode cX14_list 53 = .ok (.iadd, 1) := by decide +kernel
theorem dX14_list_54 : decode cX14_list 54 = .ok (.istore_n 3, 1) := by decide +kernel
theorem dX14_list_55 : decode cX14_list 55 = .ok (.iinc 4 1, 3) := by decide +kernel
theorem dX14_list_58 : decode cX14_list 58 = .ok (.goto (-31), 3) := by decide +kernel
theorem dX14_list_61 : decode cX14_list 61 = .ok (.iload_n 3, 1) := by decide +kernel
theorem dX14_list_62 : decode cX14_list 62 = .ok (.ireturn, 1) := by decide +kernel
theorem dX14_nextOf_0 : decode cX14_nextOf 0 = .ok (.bipush (-2), 2) := by decide +kernel
theorem dX14_nextOf_2 : decode cX14_nextOf 2 = .ok (.istore_n 3, 1) := by decide +kernel
theorem dX14_nextOf_3 : decode cX14_nextOf 3 = .ok (.iconst 0, 1) := by decide +kernel
theorem dX14_nextOf_4 : decode cX14_nextOf 4 = .ok (.istore 4, 2) := by decide +kernel
theorem dX14_nextOf_6 : decode cX14_nextOf 6 = .ok (.iconst 0, 1) := by decide +kernel
theorem dX14_nextOf_7 : decode cX14_nextOf 7 = .ok (.istore 5, 2) := by decide +kernel
theorem dX14_nextOf_9 : decode cX14_nextOf 9 = .ok (.iload 5, 2) := by decide +kernel
theorem dX14_nextOf_11 : decode cX14_nextOf 11 = .ok (.aload_n 0, 1) := by decide +kernel
theorem dX14_nextOf_12 : decode cX14_nextOf 12 = .ok (.getfield 308, 3) := by decide +kernel
theorem dX14_nextOf_15 : decode cX14_nextOf 15 = .ok (.if_icmp .ge 90, 3) := by decide +kernel
theorem dX14_nextOf_18 : decode cX14_nextOf 18 = .ok (.aload_n 0, 1) := by decide +kernel
theorem dX14_nextOf_19 : decode cX14_nextOf 19 = .ok (.getfield 54, 3) := by decide +kernel
theorem dX14_nextOf_22 : decode cX14_nextOf 22 = .ok (.iload 5, 2) := by decide +kernel
theorem dX14_nextOf_24 : decode cX14_nextOf 24 = .ok (.iaload, 1) := by decide +kernel
theorem dX14_nextOf_25 : decode cX14_nextOf 25 = .ok (.iconst (-1), 1) := by decide +kernel
theorem dX14_nextOf_26 : decode cX14_nextOf 26 = .ok (.if_icmp .ne 73, 3) := by decide +kernel
theorem dX14_nextOf_29 : decode cX14_nextOf 29 = .ok (.aload_n 0, 1) := by decide +kernel
theorem dX14_nextOf_30 : decode cX14_nextOf 30 = .ok (.iload 5, 2) := by decide +kernel
theorem dX14_nextOf_32 : decode cX14_nextOf 32 = .ok (.iload_n 1, 1) := by decide +kernel
theorem dX14_nextOf_33 : decode cX14_nextOf 33 = .ok (.iload_n 2, 1) := by decide +kernel
theorem dX14_nextOf_34 : decode cX14_nextOf 34 = .ok (.invokevirtual 346, 3) := by decide +kernel
theorem dX14_nextOf_37 : decode cX14_nextOf 37 = .ok (.ifCond .ne 6, 3) := by decide +kernel
theorem dX14_nextOf_40 : decode cX14_nextOf 40 = .ok (.goto 59, 3) := by decide +kernel
theorem dX14_nextOf_43 : decode cX14_nextOf 43 = .ok (.aload_n 0, 1) := by decide +kernel
theorem dX14_nextOf_44 : decode cX14_nextOf 44 = .ok (.iload 5, 2) := by decide +kernel
theorem dX14_nextOf_46 : decode cX14_nextOf 46 = .ok (.iload_n 1, 1) := by decide +kernel
theorem dX14_nextOf_47 : decode cX14_nextOf 47 = .ok (.iload_n 2, 1) := by decide +kernel
theorem dX14_nextOf_48 : decode cX14_nextOf 48 = .ok (.invokevirtual 349, 3) := by decide +kernel
theorem dX14_nextOf_51 : decode cX14_nextOf 51 = .ok (.istore 6, 2) := by decide +kernel
theorem dX14_nextOf_53 : decode cX14_nextOf 53 = .ok (.iload_n 3, 1) := by decide +kernel
theorem dX14_nextOf_54 : decode cX14_nextOf 54 = .ok (.bipush (-2), 2) := by decide +kernel
theorem dX14_nextOf_56 : decode cX14_nextOf 56 = .ok (.if_icmp .eq 36, 3) := by decide +kernel
theorem dX14_nextOf_59 : decode cX14_nextOf 59 = .ok (.iload 6, 2) := by decide +kernel
theorem dX14_nextOf_61 : decode cX14_nextOf 61 = .ok (.iload 4, 2) := by decide +kernel
theorem dX14_nextOf_63 : decode cX14_nextOf 63 = .ok (.if_icmp .lt 36, 3) := by decide +kernel
theorem dX14_nextOf_66 : decode cX14_nextOf 66 = .ok (.iload 6, 2) := by decide +kernel
theorem dX14_nextOf_68 : decode cX14_nextOf 68 = .ok (.iload 4, 2) := by decide +kernel
theorem dX14_nextOf_70 : decode cX14_nextOf 70 = .ok (.if_icmp .ne 22, 3) := by decide +kernel
theorem dX14_nextOf_73 : decode cX14_nextOf 73 = .ok (.aload_n 0, 1) := by decide +kernel
theorem dX14_nextOf_74 : decode cX14_nextOf 74 = .ok (.getfield 42, 3) := by decide +kernel
theorem dX14_nextOf_77 : decode cX14_nextOf 77 = .ok (.iload 5, 2) := by decide +kernel
theorem dX14_nextOf_79 : decode cX14_nextOf 79 = .ok (.iaload, 1) := by decide +kernel
theorem dX14_nextOf_80 : decode cX14_nextOf 80 = .ok (.aload_n 0, 1) := by decide +kernel
theorem dX14_nextOf_81 : decode cX14_nextOf 81 = .ok (.getfield 42, 3) := by decide +kernel
theorem dX14_nextOf_84 : decode cX14_nextOf 84 = .ok (.iload_n 3, 1) := by decide +kernel
theorem dX14_nextOf_85 : decode cX14_nextOf 85 = .ok (.iaload, 1) := by decide +kernel
theorem dX14_nextOf_86 : decode cX14_nextOf 86 = .ok (.if_icmp .lt 6, 3) := by decide +kernel
theorem dX14_nextOf_89 : decode cX14_nextOf 89 = .ok (.goto 10, 3) := by decide +kernel
theorem dX14_nextOf_92 : decode cX14_nextOf 92 = .ok (.iload 5, 2) := by decide +kernel
theorem dX14_nextOf_94 : decode cX14_nextOf 94 = .ok (.istore_n 3, 1) := by decide +kernel
theorem dX14_nextOf_95 : decode cX14_nextOf 95 = .ok (.iload 6, 2) := by decide +kernel
theorem dX14_nextOf_97 : decode cX14_nextOf 97 = .ok (.istore 4, 2) := by decide +kernel
theorem dX14_nextOf_99 : decode cX14_nextOf 99 = .ok (.iinc 5 1, 3) := by decide +kernel
theorem dX14_nextOf_102 : decode cX14_nextOf 102 = .ok (.goto (-93), 3) := by decide +kernel
theorem dX14_nextOf_105 : decode cX14_nextOf 105 = .ok (.iload_n 3, 1) := by decide +kernel
theorem dX14_nextOf_106 : decode cX14_nextOf 106 = .ok (.ireturn, 1) := by decide +kernel
theorem dX14_next__0 : decode cX14_next_ 0 = .ok (.aload_n 0, 1) := by decide +kernel
theorem dX14_next__1 : decode cX14_next_ 1 = .ok (.iconst 0, 1) := by decide +kernel
theorem dX14_next__2 : decode cX14_next_ 2 = .ok (.putfield 112, 3) := by decide +kernel
theorem dX14_next__5 : decode cX14_next_ 5 = .ok (.aload_n 0, 1) := by decide +kernel
theorem dX14_next__6 : decode cX14_next_ 6 = .ok (.iload_n 1, 1) := by decide +kernel
theorem dX14_next__7 : decode cX14_next_ 7 = .ok (.invokevirtual 274, 3) := by decide +kernel
theorem dX14_next__10 : decode cX14_next_ 10 = .ok (.ifCond .eq 19, 3) := by decide +kernel
theorem dX14_next__13 : decode cX14_next_ 13 = .ok (.iload_n 2, 1) := by decide +kernel
theorem dX14_next__14 : decode cX14_next_ 14 = .ok (.invokestatic 277, 3) := by decide +kernel
theorem dX14_next__17 : decode cX14_next_ 17 = .ok (.ifCond .eq 12, 3) := by decide +kernel
theorem dX14_next__20 : decode cX14_next_ 20 = .ok (.aload_n 0, 1) := by decide +kernel
theorem dX14_next__21 : decode cX14_next_ 21 = .ok (.iload_n 1, 1) := by decide +kernel
theorem dX14_next__22 : decode cX14_next_ 22 = .ok (.iload_n 2, 1) := by decide +kernel
theorem dX14_next__23 : decode cX14_next_ 23 = .ok (.invokevirtual 352, 3) := by decide +kernel
theorem dX14_next__26 : decode cX14_next_ 26 = .ok (.goto 4, 3) := by decide +kernel
theorem dX14_next__29 : decode cX14_next_ 29 = .ok (.iconst (-1), 1) := by decide +kernel
theorem dX14_next__30 : decode cX14_next_ 30 = .ok (.ireturn, 1) := by decide +kernel
theorem dX14_room_0 : decode cX14_room 0 = .ok (.aload_n 0, 1) := by decide +kernel
theorem dX14_room_1 : decode cX14_room 1 = .ok (.iconst 0, 1) := by decide +kernel
theorem dX14_room_2 : decode cX14_room 2 = .ok (.putfield 112, 3) := by decide +kernel
theorem dX14_room_5 : decode cX14_room 5 = .ok (.aload_n 0, 1) := by decide +kernel
theorem dX14_room_6 : decode cX14_room 6 = .ok (.iload_n 1, 1) := by decide +kernel
theorem dX14_room_7 : decode cX14_room 7 = .ok (.invokevirtual 274, 3) := by decide +kernel
theorem dX14_room_10 : decode cX14_room 10 = .ok (.ifCond .ne 9, 3) := by decide +kernel
theorem dX14_room_13 : decode cX14_room 13 = .ok (.aload_n 0, 1) := by decide +kernel
theorem dX14_room_14 : decode cX14_room 14 = .ok (.iconst 1, 1) := by decide +kernel
theorem dX14_room_15 : decode cX14_room 15 = .ok (.invokevirtual 121, 3) := by decide +kernel
theorem dX14_room_18 : decode cX14_room 18 = .ok (.ireturn, 1) := by decide +kernel
theorem dX14_room_19 : decode cX14_room 19 = .ok (.aload_n 0, 1) := by decide +kernel
theorem dX14_room_20 : decode cX14_room 20 = .ok (.getfield 355, 3) := by decide +kernel
theorem dX14_room_23 : decode cX14_room 23 = .ok (.bipush 20, 2) := by decide +kernel
theorem dX14_room_25 : decode cX14_room 25 = .ok (.if_icmp .ne 9, 3) := by decide +kernel
theorem dX14_room_28 : decode cX14_room 28 = .ok (.aload_n 0, 1) := by decide +kernel
theorem dX14_room_29 : decode cX14_room 29 = .ok (.iconst 3, 1) := by decide +kernel
theorem dX14_room_30 : decode cX14_room 30 = .ok (.invokevirtual 121, 3) := by decide +kernel
theorem dX14_room_33 : decode cX14_room 33 = .ok (.ireturn, 1) := by decide +kernel
theorem dX14_room_34 : decode cX14_room 34 = .ok (.aload_n 0, 1) := by decide +kernel
theorem dX14_room_35 : decode cX14_room 35 = .ok (.getfield 76, 3) := by decide +kernel
theorem dX14_room_38 : decode cX14_room 38 = .ok (.aload_n 0, 1) := by decide +kernel
theorem dX14_room_39 : decode cX14_room 39 = .ok (.getfield 355, 3) := by decide +kernel
theorem dX14_room_42 : decode cX14_room 42 = .ok (.iload_n 1, 1) := by decide +kernel
theorem dX14_room_43 : decode cX14_room 43 = .ok (.iastore, 1) := by decide +kernel
theorem dX14_room_44 : decode cX14_room 44 = .ok (.aload_n 0, 1) := by decide +kernel
theorem dX14_room_45 : decode cX14_room 45 = .ok (.getfield 79, 3) := by decide +kernel
theorem dX14_room_48 : decode cX14_room 48 = .ok (.aload_n 0, 1) := by decide +kernel
theorem dX14_room_49 : decode cX14_room 49 = .ok (.getfield 355, 3) := by decide +kernel
theorem dX14_room_52 : decode cX14_room 52 = .ok (.iconst (-1), 1) := by decide +kernel
theorem dX14_room_53 : decode cX14_room 53 = .ok (.iastore, 1) := by decide +kernel
theorem dX14_room_54 : decode cX14_room 54 = .ok (.aload_n 0, 1) := by decide +kernel
theorem dX14_room_55 : decode cX14_room 55 = .ok (.getfield 82, 3) := by decide +kernel
theorem dX14_room_58 : decode cX14_room 58 = .ok (.aload_n 0, 1) := by decide +kernel
theorem dX14_room_59 : decode cX14_room 59 = .ok (.getfield 355, 3) := by decide +kernel
theorem dX14_room_62 : decode cX14_room 62 = .ok (.bipush (-2), 2) := by decide +kernel
theorem dX14_room_64 : decode cX14_room 64 = .ok (.iastore, 1) := by decide +kernel
theorem dX14_room_65 : decode cX14_room 65 = .ok (.aload_n 0, 1) := by decide +kernel
theorem dX14_room_66 : decode cX14_room 66 = .ok (.dup, 1) := by decide +kernel
theorem dX14_room_67 : decode cX14_room 67 = .ok (.getfield 355, 3) := by decide +kernel
theorem dX14_room_70 : decode cX14_room 70 = .ok (.iconst 1, 1) := by decide +kernel
theorem dX14_room_71 : decode cX14_room 71 = .ok (.iadd, 1) := by decide +kernel
theorem dX14_room_72 : decode cX14_room 72 = .ok (.putfield 355, 3) := by decide +kernel
theorem dX14_room_75 : decode cX14_room 75 = .ok (.aload_n 0, 1) := by decide +kernel
theorem dX14_room_76 : decode cX14_room 76 = .ok (.aload_n 0, 1) := by decide +kernel
theorem dX14_room_77 : decode cX14_room 77 = .ok (.getfield 355, 3) := by decide +kernel
theorem dX14_room_80 : decode cX14_room 80 = .ok (.iconst 1, 1) := by decide +kernel
theorem dX14_room_81 : decode cX14_room 81 = .ok (.isub, 1) := by decide +kernel
theorem dX14_room_82 : decode cX14_room 82 = .ok (.invokevirtual 125, 3) := by decide +kernel
theorem dX14_room_85 : decode cX14_room 85 = .ok (.ireturn, 1) := by decide +kernel
theorem dX14_trustee_0 : decode cX14_trustee 0 = .ok (.aload_n 0, 1) := by decide +kernel
theorem dX14_trustee_1 : decode cX14_trustee 1 = .ok (.iconst 0, 1) := by decide +kernel
theorem dX14_trustee_2 : decode cX14_trustee 2 = .ok (.putfield 112, 3) := by decide +kernel
theorem dX14_trustee_5 : decode cX14_trustee 5 = .ok (.aload_n 0, 1) := by decide +kernel
theorem dX14_trustee_6 : decode cX14_trustee 6 = .ok (.getfield 358, 3) := by decide +kernel
theorem dX14_trustee_9 : decode cX14_trustee 9 = .ok (.bipush 8, 2) := by decide +kernel
theorem dX14_trustee_11 : decode cX14_trustee 11 = .ok (.if_icmp .ne 9, 3) := by decide +kernel
theorem dX14_trustee_14 : decode cX14_trustee 14 = .ok (.aload_n 0, 1) := by decide +kernel
theorem dX14_trustee_15 : decode cX14_trustee 15 = .ok (.iconst 3, 1) := by decide +kernel
theorem dX14_trustee_16 : decode cX14_trustee 16 = .ok (.invokevirtual 121, 3) := by decide +kernel
theorem dX14_trustee_19 : decode cX14_trustee 19 = .ok (.ireturn, 1) := by decide +kernel
theorem dX14_trustee_20 : decode cX14_trustee 20 = .ok (.aload_n 0, 1) := by decide +kernel
theorem dX14_trustee_21 : decode cX14_trustee 21 = .ok (.getfield 358, 3) := by decide +kernel
theorem dX14_trustee_24 : decode cX14_trustee 24 = .ok (.ifCond .ne 8, 3) := by decide +kernel
theorem dX14_trustee_27 : decode cX14_trustee 27 = .ok (.aload_n 0, 1) := by decide +kernel
theorem dX14_trustee_28 : decode cX14_trustee 28 = .ok (.iconst 0, 1) := by decide +kernel
theorem dX14_trustee_29 : decode cX14_trustee 29 = .ok (.putfield 73, 3) := by decide +kernel
theorem dX14_trustee_32 : decode cX14_trustee 32 = .ok (.aload_n 0, 1) := by decide +kernel
theorem dX14_trustee_33 : decode cX14_trustee 33 = .ok (.dup, 1) := by decide +kernel
theorem dX14_trustee_34 : decode cX14_trustee 34 = .ok (.getfield 358, 3) := by decide +kernel
theorem dX14_trustee_37 : decode cX14_trustee 37 = .ok (.iconst 1, 1) := by decide +kernel
theorem dX14_trustee_38 : decode cX14_trustee 38 = .ok (.iadd, 1) := by decide +kernel
theorem dX14_trustee_39 : decode cX14_trustee 39 = .ok (.putfield 358, 3) := by decide +kernel
theorem dX14_trustee_42 : decode cX14_trustee 42 = .ok (.aload_n 0, 1) := by decide +kernel
theorem dX14_trustee_43 : decode cX14_trustee 43 = .ok (.aload_n 0, 1) := by decide +kernel
theorem dX14_trustee_44 : decode cX14_trustee 44 = .ok (.getfield 358, 3) := by decide +kernel
theorem dX14_trustee_47 : decode cX14_trustee 47 = .ok (.iconst 1, 1) := by decide +kernel
theorem dX14_trustee_48 : decode cX14_trustee 48 = .ok (.isub, 1) := by decide +kernel
theorem dX14_trustee_49 : decode cX14_trustee 49 = .ok (.invokevirtual 125, 3) := by decide +kernel
theorem dX14_trustee_52 : decode cX14_trustee 52 = .ok (.ireturn, 1) := by decide +kernel
theorem dX14_away_0 : decode cX14_away 0 = .ok (.aload_n 0, 1) := by decide +kernel
theorem dX14_away_1 : decode cX14_away 1 = .ok (.iconst 0, 1) := by decide +kernel
theorem dX14_away_2 : decode cX14_away 2 = .ok (.putfield 112, 3) := by decide +kernel
theorem dX14_away_5 : decode cX14_away 5 = .ok (.iload_n 1, 1) := by decide +kernel
theorem dX14_away_6 : decode cX14_away 6 = .ok (.ifCond .lt 11, 3) := by decide +kernel
theorem dX14_away_9 : decode cX14_away 9 = .ok (.iload_n 1, 1) := by decide +kernel
theorem dX14_away_10 : decode cX14_away 10 = .ok (.aload_n 0, 1) := by decide +kernel
theorem dX14_away_11 : decode cX14_away 11 = .ok (.getfield 358, 3) := by decide +kernel
theorem dX14_away_14 : decode cX14_away 14 = .ok (.if_icmp .lt 9, 3) := by decide +kernel
theorem dX14_away_17 : decode cX14_away 17 = .ok (.aload_n 0, 1) := by decide +kernel
theorem dX14_away_18 : decode cX14_away 18 = .ok (.iconst 1, 1) := by decide +kernel
theorem dX14_away_19 : decode cX14_away 19 = .ok (.invokevirtual 361, 3) := by decide +kernel
theorem dX14_away_22 : decode cX14_away 22 = .ok (.ireturn, 1) := by decide +kernel
theorem dX14_away_23 : decode cX14_away 23 = .ok (.aload_n 0, 1) := by decide +kernel
theorem dX14_away_24 : decode cX14_away 24 = .ok (.getfield 97, 3) := by decide +kernel
theorem dX14_away_27 : decode cX14_away 27 = .ok (.iload_n 1, 1) := by decide +kernel
theorem dX14_away_28 : decode cX14_away 28 = .ok (.iload_n 2, 1) := by decide +kernel
theorem dX14_away_29 : decode cX14_away 29 = .ok (.bastore, 1) := by decide +kernel
theorem dX14_away_30 : decode cX14_away 30 = .ok (.aload_n 0, 1) := by decide +kernel
theorem dX14_away_31 : decode cX14_away 31 = .ok (.invokevirtual 364, 3) := by decide +kernel
theorem dX14_away_34 : decode cX14_away 34 = .ok (.ireturn, 1) := by decide +kernel
theorem dX14_isRoom_0 : decode cX14_isRoom 0 = .ok (.iload_n 1, 1) := by decide +kernel
theorem dX14_isRoom_1 : decode cX14_isRoom 1 = .ok (.ifCond .lt 15, 3) := by decide +kernel
theorem dX14_isRoom_4 : decode cX14_isRoom 4 = .ok (.iload_n 1, 1) := by decide +kernel
theorem dX14_isRoom_5 : decode cX14_isRoom 5 = .ok (.aload_n 0, 1) := by decide +kernel
theorem dX14_isRoom_6 : decode cX14_isRoom 6 = .ok (.getfield 355, 3) := by decide +kernel
theorem dX14_isRoom_9 : decode cX14_isRoom 9 = .ok (.if_icmp .ge 7, 3) := by decide +kernel
theorem dX14_isRoom_12 : decode cX14_isRoom 12 = .ok (.iconst 1, 1) := by decide +kernel
theorem dX14_isRoom_13 : decode cX14_isRoom 13 = .ok (.goto 4, 3) := by decide +kernel
theorem dX14_isRoom_16 : decode cX14_isRoom 16 = .ok (.iconst 0, 1) := by decide +kernel
theorem dX14_isRoom_17 : decode cX14_isRoom 17 = .ok (.ireturn, 1) := by decide +kernel
theorem dX14_fill_0 : decode cX14_fill 0 = .ok (.aload_n 0, 1) := by decide +kernel
theorem dX14_fill_1 : decode cX14_fill 1 = .ok (.iconst 0, 1) := by decide +kernel
theorem dX14_fill_2 : decode cX14_fill 2 = .ok (.putfield 112, 3) := by decide +kernel
theorem dX14_fill_5 : decode cX14_fill 5 = .ok (.aload_n 0, 1) := by decide +kernel
theorem dX14_fill_6 : decode cX14_fill 6 = .ok (.iload_n 1, 1) := by decide +kernel
theorem dX14_fill_7 : decode cX14_fill 7 = .ok (.invokevirtual 368, 3) := by decide +kernel
theorem dX14_fill_10 : decode cX14_fill 10 = .ok (.ifCond .ne 9, 3) := by decide +kernel
theorem dX14_fill_13 : decode cX14_fill 13 = .ok (.aload_n 0, 1) := by decide +kernel
theorem dX14_fill_14 : decode cX14_fill 14 = .ok (.iconst 1, 1) := by decide +kernel
theorem dX14_fill_15 : decode cX14_fill 15 = .ok (.invokevirtual 121, 3) := by decide +kernel
theorem dX14_fill_18 : decode cX14_fill 18 = .ok (.ireturn, 1) := by decide +kernel
theorem dX14_fill_19 : decode cX14_fill 19 = .ok (.aload_n 0, 1) := by decide +kernel
theorem dX14_fill_20 : decode cX14_fill 20 = .ok (.getfield 79, 3) := by decide +kernel
theorem dX14_fill_23 : decode cX14_fill 23 = .ok (.iload_n 1, 1) := by decide +kernel
theorem dX14_fill_24 : decode cX14_fill 24 = .ok (.iaload, 1) := by decide +kernel
theorem dX14_fill_25 : decode cX14_fill 25 = .ok (.iconst (-1), 1) := by decide +kernel
theorem dX14_fill_26 : decode cX14_fill 26 = .ok (.if_icmp .eq 9, 3) := by decide +kernel
theorem dX14_fill_29 : decode cX14_fill 29 = .ok (.aload_n 0, 1) := by decide +kernel
theorem dX14_fill_30 : decode cX14_fill 30 = .ok (.iconst 5, 1) := by decide +kernel
theorem dX14_fill_31 : decode cX14_fill 31 = .ok (.invokevirtual 121, 3) := by decide +kernel
theorem dX14_fill_34 : decode cX14_fill 34 = .ok (.ireturn, 1) := by decide +kernel
theorem dX14_fill_35 : decode cX14_fill 35 = .ok (.iconst (-1), 1) := by decide +kernel
theorem dX14_fill_36 : decode cX14_fill 36 = .ok (.istore_n 2, 1) := by decide +kernel
theorem dX14_fill_37 : decode cX14_fill 37 = .ok (.iconst 0, 1) := by decide +kernel
theorem dX14_fill_38 : decode cX14_fill 38 = .ok (.istore_n 3, 1) := by decide +kernel
theorem dX14_fill_39 : decode cX14_fill 39 = .ok (.iload_n 3, 1) := by decide +kernel
theorem dX14_fill_40 : decode cX14_fill 40 = .ok (.aload_n 0, 1) := by decide +kernel
theorem dX14_fill_41 : decode cX14_fill 41 = .ok (.getfield 358, 3) := by decide +kernel
theorem dX14_fill_44 : decode cX14_fill 44 = .ok (.if_icmp .ge 45, 3) := by decide +kernel
theorem dX14_fill_47 : decode cX14_fill 47 = .ok (.iload_n 2, 1) := by decide +kernel
theorem dX14_fill_48 : decode cX14_fill 48 = .ok (.iconst (-1), 1) := by decide +kernel
theorem dX14_fill_49 : decode cX14_fill 49 = .ok (.if_icmp .ne 40, 3) := by decide +kernel
theorem dX14_fill_52 : decode cX14_fill 52 = .ok (.aload_n 0, 1) := by decide +kernel
theorem dX14_fill_53 : decode cX14_fill 53 = .ok (.getfield 97, 3) := by decide +kernel
theorem dX14_fill_56 : decode cX14_fill 56 = .ok (.aload_n 0, 1) := by decide +kernel
theorem dX14_fill_57 : decode cX14_fill 57 = .ok (.getfield 73, 3) := by decide +kernel
theorem dX14_fill_60 : decode cX14_fill 60 = .ok (.iload_n 3, 1) := by decide +kernel
theorem dX14_fill_61 : decode cX14_fill 61 = .ok (.iadd, 1) := by decide +kernel
theorem dX14_fill_62 : decode cX14_fill 62 = .ok (.aload_n 0, 1) := by decide +kernel
theorem dX14_fill_63 : decode cX14_fill 63 = .ok (.getfield 358, 3) := by decide +kernel
theorem dX14_fill_66 : decode cX14_fill 66 = .ok (.irem, 1) := by decide +kernel
theorem dX14_fill_67 : decode cX14_fill 67 = .ok (.baload, 1) := by decide +kernel
theorem dX14_fill_68 : decode cX14_fill 68 = .ok (.ifCond .ne 15, 3) := by decide +kernel
theorem dX14_fill_71 : decode cX14_fill 71 = .ok (.aload_n 0, 1) := by decide +kernel
theorem dX14_fill_72 : decode cX14_fill 72 = .ok (.getfield 73, 3) := by decide +kernel
theorem dX14_fill_75 : decode cX14_fill 75 = .ok (.iload_n 3, 1) := by decide +kernel
theorem dX14_fill_76 : decode cX14_fill 76 = .ok (.iadd, 1) := by decide +kernel
theorem dX14_fill_77 : decode cX14_fill 77 = .ok (.aload_n 0, 1) := by decide +kernel
theorem dX14_fill_78 : decode cX14_fill 78 = .ok (.getfield 358, 3) := by decide +kernel
theorem dX14_fill_81 : decode cX14_fill 81 = .ok (.irem, 1) := by decide +kernel
theorem dX14_fill_82 : decode cX14_fill 82 = .ok (.istore_n 2, 1) := by decide +kernel
theorem dX14_fill_83 : decode cX14_fill 83 = .ok (.iinc 3 1, 3) := by decide +kernel
theorem dX14_fill_86 : decode cX14_fill 86 = .ok (.goto (-47), 3) := by decide +kernel
theorem dX14_fill_89 : decode cX14_fill 89 = .ok (.iload_n 2, 1) := by decide +kernel
theorem dX14_fill_90 : decode cX14_fill 90 = .ok (.iconst (-1), 1) := by decide +kernel
theorem dX14_fill_91 : decode cX14_fill 91 = .ok (.if_icmp .ne 8, 3) := by decide +kernel
theorem dX14_fill_94 : decode cX14_fill 94 = .ok (.bipush (-2), 2) := by decide +kernel
theorem dX14_fill_96 : decode cX14_fill 96 = .ok (.goto 17, 3) := by decide +kernel
theorem dX14_fill_99 : decode cX14_fill 99 = .ok (.aload_n 0, 1) := by decide +kernel
theorem dX14_fill_100 : decode cX14_fill 100 = .ok (.aload_n 0, 1) := by decide +kernel
theorem dX14_fill_101 : decode cX14_fill 101 = .ok (.getfield 76, 3) := by decide +kernel
theorem dX14_fill_104 : decode cX14_fill 104 = .ok (.iload_n 1, 1) := by decide +kernel
theorem dX14_fill_105 : decode cX14_fill 105 = .ok (.iaload, 1) := by decide +kernel
theorem dX14_fill_106 : decode cX14_fill 106 = .ok (.aload_n 0, 1) := by decide +kernel
theorem dX14_fill_107 : decode cX14_fill 107 = .ok (.getfield 312, 3) := by decide +kernel
theorem dX14_fill_110 : decode cX14_fill 110 = .ok (.invokevirtual 352, 3) := by decide +kernel
theorem dX14_fill_113 : decode cX14_fill 113 = .ok (.istore_n 3, 1) := by decide +kernel
theorem dX14_fill_114 : decode cX14_fill 114 = .ok (.iload_n 3, 1) := by decide +kernel
theorem dX14_fill_115 : decode cX14_fill 115 = .ok (.bipush (-2), 2) := by decide +kernel
theorem dX14_fill_117 : decode cX14_fill 117 = .ok (.if_icmp .ne 10, 3) := by decide +kernel
theorem dX14_fill_120 : decode cX14_fill 120 = .ok (.aload_n 0, 1) := by decide +kernel
theorem dX14_fill_121 : decode cX14_fill 121 = .ok (.bipush 6, 2) := by decide +kernel
theorem dX14_fill_123 : decode cX14_fill 123 = .ok (.invokevirtual 121, 3) := by decide +kernel
theorem dX14_fill_126 : decode cX14_fill 126 = .ok (.ireturn, 1) := by decide +kernel
theorem dX14_fill_127 : decode cX14_fill 127 = .ok (.aload_n 0, 1) := by decide +kernel
theorem dX14_fill_128 : decode cX14_fill 128 = .ok (.getfield 371, 3) := by decide +kernel
theorem dX14_fill_131 : decode cX14_fill 131 = .ok (.bipush 100, 2) := by decide +kernel
theorem dX14_fill_133 : decode cX14_fill 133 = .ok (.if_icmp .ne 9, 3) := by decide +kernel
theorem dX14_fill_136 : decode cX14_fill 136 = .ok (.aload_n 0, 1) := by decide +kernel
theorem dX14_fill_137 : decode cX14_fill 137 = .ok (.iconst 3, 1) := by decide +kernel
theorem dX14_fill_138 : decode cX14_fill 138 = .ok (.invokevirtual 121, 3) := by decide +kernel
theorem dX14_fill_141 : decode cX14_fill 141 = .ok (.ireturn, 1) := by decide +kernel
theorem dX14_fill_142 : decode cX14_fill 142 = .ok (.aload_n 0, 1) := by decide +kernel
theorem dX14_fill_143 : decode cX14_fill 143 = .ok (.getfield 85, 3) := by decide +kernel
theorem dX14_fill_146 : decode cX14_fill 146 = .ok (.aload_n 0, 1) := by decide +kernel
theorem dX14_fill_147 : decode cX14_fill 147 = .ok (.getfield 371, 3) := by decide +kernel
theorem dX14_fill_150 : decode cX14_fill 150 = .ok (.iload_n 1, 1) := by decide +kernel
theorem dX14_fill_151 : decode cX14_fill 151 = .ok (.iastore, 1) := by decide +kernel
theorem dX14_fill_152 : decode cX14_fill 152 = .ok (.aload_n 0, 1) := by decide +kernel
theorem dX14_fill_153 : decode cX14_fill 153 = .ok (.getfield 88, 3) := by decide +kernel
theorem dX14_fill_156 : decode cX14_fill 156 = .ok (.aload_n 0, 1) := by decide +kernel
theorem dX14_fill_157 : decode cX14_fill 157 = .ok (.getfield 371, 3) := by decide +kernel
theorem dX14_fill_160 : decode cX14_fill 160 = .ok (.iload_n 3, 1) := by decide +kernel
theorem dX14_fill_161 : decode cX14_fill 161 = .ok (.iastore, 1) := by decide +kernel
theorem dX14_fill_162 : decode cX14_fill 162 = .ok (.aload_n 0, 1) := by decide +kernel
theorem dX14_fill_163 : decode cX14_fill 163 = .ok (.getfield 91, 3) := by decide +kernel
theorem dX14_fill_166 : decode cX14_fill 166 = .ok (.aload_n 0, 1) := by decide +kernel
theorem dX14_fill_167 : decode cX14_fill 167 = .ok (.getfield 371, 3) := by decide +kernel
theorem dX14_fill_170 : decode cX14_fill 170 = .ok (.aload_n 0, 1) := by decide +kernel
theorem dX14_fill_171 : decode cX14_fill 171 = .ok (.getfield 312, 3) := by decide +kernel
theorem dX14_fill_174 : decode cX14_fill 174 = .ok (.iastore, 1) := by decide +kernel
theorem dX14_fill_175 : decode cX14_fill 175 = .ok (.aload_n 0, 1) := by decide +kernel
theorem dX14_fill_176 : decode cX14_fill 176 = .ok (.getfield 94, 3) := by decide +kernel
theorem dX14_fill_179 : decode cX14_fill 179 = .ok (.aload_n 0, 1) := by decide +kernel
theorem dX14_fill_180 : decode cX14_fill 180 = .ok (.getfield 371, 3) := by decide +kernel
theorem dX14_fill_183 : decode cX14_fill 183 = .ok (.iconst (-1), 1) := by decide +kernel
theorem dX14_fill_184 : decode cX14_fill 184 = .ok (.iastore, 1) := by decide +kernel
theorem dX14_fill_185 : decode cX14_fill 185 = .ok (.aload_n 0, 1) := by decide +kernel
theorem dX14_fill_186 : decode cX14_fill 186 = .ok (.getfield 79, 3) := by decide +kernel
theorem dX14_fill_189 : decode cX14_fill 189 = .ok (.iload_n 1, 1) := by decide +kernel
theorem dX14_fill_190 : decode cX14_fill 190 = .ok (.aload_n 0, 1) := by decide +kernel
theorem dX14_fill_191 : decode cX14_fill 191 = .ok (.getfield 371, 3) := by decide +kernel
theorem dX14_fill_194 : decode cX14_fill 194 = .ok (.iastore, 1) := by decide +kernel
theorem dX14_fill_195 : decode cX14_fill 195 = .ok (.aload_n 0, 1) := by decide +kernel
theorem dX14_fill_196 : decode cX14_fill 196 = .ok (.getfield 82, 3) := by decide +kernel
theorem dX14_fill_199 : decode cX14_fill 199 = .ok (.iload_n 1, 1) := by decide +kernel
theorem dX14_fill_200 : decode cX14_fill 200 = .ok (.iload_n 2, 1) := by decide +kernel
theorem dX14_fill_201 : decode cX14_fill 201 = .ok (.iastore, 1) := by decide +kernel
theorem dX14_fill_202 : decode cX14_fill 202 = .ok (.aload_n 0, 1) := by decide +kernel
theorem dX14_fill_203 : decode cX14_fill 203 = .ok (.getfield 54, 3) := by decide +kernel
theorem dX14_fill_206 : decode cX14_fill 206 = .ok (.iload_n 3, 1) := by decide +kernel
theorem dX14_fill_207 : decode cX14_fill 207 = .ok (.iload_n 1, 1) := by decide +kernel
theorem dX14_fill_208 : decode cX14_fill 208 = .ok (.iastore, 1) := by decide +kernel
theorem dX14_fill_209 : decode cX14_fill 209 = .ok (.aload_n 0, 1) := by decide +kernel
theorem dX14_fill_210 : decode cX14_fill 210 = .ok (.dup, 1) := by decide +kernel
theorem dX14_fill_211 : decode cX14_fill 211 = .ok (.getfield 371, 3) := by decide +kernel
theorem dX14_fill_214 : decode cX14_fill 214 = .ok (.iconst 1, 1) := by decide +kernel
theorem dX14_fill_215 : decode cX14_fill 215 = .ok (.iadd, 1) := by decide +kernel
theorem dX14_fill_216 : decode cX14_fill 216 = .ok (.putfield 371, 3) := by decide +kernel
theorem dX14_fill_219 : decode cX14_fill 219 = .ok (.aload_n 0, 1) := by decide +kernel
theorem dX14_fill_220 : decode cX14_fill 220 = .ok (.iload_n 2, 1) := by decide +kernel
theorem dX14_fill_221 : decode cX14_fill 221 = .ok (.iconst 1, 1) := by decide +kernel
theorem dX14_fill_222 : decode cX14_fill 222 = .ok (.iadd, 1) := by decide +kernel
theorem dX14_fill_223 : decode cX14_fill 223 = .ok (.aload_n 0, 1) := by decide +kernel
theorem dX14_fill_224 : decode cX14_fill 224 = .ok (.getfield 358, 3) := by decide +kernel
theorem dX14_fill_227 : decode cX14_fill 227 = .ok (.irem, 1) := by decide +kernel
theorem dX14_fill_228 : decode cX14_fill 228 = .ok (.putfield 73, 3) := by decide +kernel
theorem dX14_fill_231 : decode cX14_fill 231 = .ok (.aload_n 0, 1) := by decide +kernel
theorem dX14_fill_232 : decode cX14_fill 232 = .ok (.iload_n 3, 1) := by decide +kernel
theorem dX14_fill_233 : decode cX14_fill 233 = .ok (.invokevirtual 125, 3) := by decide +kernel
theorem dX14_fill_236 : decode cX14_fill 236 = .ok (.ireturn, 1) := by decide +kernel
theorem dX14_ends_0 : decode cX14_ends 0 = .ok (.aload_n 0, 1) := by decide +kernel
theorem dX14_ends_1 : decode cX14_ends 1 = .ok (.getfield 79, 3) := by decide +kernel
theorem dX14_ends_4 : decode cX14_ends 4 = .ok (.iload_n 1, 1) := by decide +kernel
theorem dX14_ends_5 : decode cX14_ends 5 = .ok (.iaload, 1) := by decide +kernel
theorem dX14_ends_6 : decode cX14_ends 6 = .ok (.istore_n 2, 1) := by decide +kernel
theorem dX14_ends_7 : decode cX14_ends 7 = .ok (.aload_n 0, 1) := by decide +kernel
theorem dX14_ends_8 : decode cX14_ends 8 = .ok (.getfield 88, 3) := by decide +kernel
theorem dX14_ends_11 : decode cX14_ends 11 = .ok (.iload_n 2, 1) := by decide +kernel
theorem dX14_ends_12 : decode cX14_ends 12 = .ok (.iaload, 1) := by decide +kernel
theorem dX14_ends_13 : decode cX14_ends 13 = .ok (.istore_n 3, 1) := by decide +kernel
theorem dX14_ends_14 : decode cX14_ends 14 = .ok (.aload_n 0, 1) := by decide +kernel
theorem dX14_ends_15 : decode cX14_ends 15 = .ok (.getfield 94, 3) := by decide +kernel
theorem dX14_ends_18 : decode cX14_ends 18 = .ok (.iload_n 2, 1) := by decide +kernel
theorem dX14_ends_19 : decode cX14_ends 19 = .ok (.aload_n 0, 1) := by decide +kernel
theorem dX14_ends_20 : decode cX14_ends 20 = .ok (.getfield 312, 3) := by decide +kernel
theorem dX14_ends_23 : decode cX14_ends 23 = .ok (.iastore, 1) := by decide +kernel
theorem dX14_ends_24 : decode cX14_ends 24 = .ok (.aload_n 0, 1) := by decide +kernel
theorem dX14_ends_25 : decode cX14_ends 25 = .ok (.getfield 79, 3) := by decide +kernel
theorem dX14_ends_28 : decode cX14_ends 28 = .ok (.iload_n 1, 1) := by decide +kernel
theorem dX14_ends_29 : decode cX14_ends 29 = .ok (.iconst (-1), 1) := by decide +kernel
theorem dX14_ends_30 : decode cX14_ends 30 = .ok (.iastore, 1) := by decide +kernel
theorem dX14_ends_31 : decode cX14_ends 31 = .ok (.aload_n 0, 1) := by decide +kernel
theorem dX14_ends_32 : decode cX14_ends 32 = .ok (.getfield 54, 3) := by decide +kernel
theorem dX14_ends_35 : decode cX14_ends 35 = .ok (.iload_n 3, 1) := by decide +kernel
theorem dX14_ends_36 : decode cX14_ends 36 = .ok (.iconst (-1), 1) := by decide +kernel
theorem dX14_ends_37 : decode cX14_ends 37 = .ok (.iastore, 1) := by decide +kernel
theorem dX14_ends_38 : decode cX14_ends 38 = .ok (.aload_n 0, 1) := by decide +kernel
theorem dX14_ends_39 : decode cX14_ends 39 = .ok (.getfield 48, 3) := by decide +kernel
theorem dX14_ends_42 : decode cX14_ends 42 = .ok (.iload_n 3, 1) := by decide +kernel
theorem dX14_ends_43 : decode cX14_ends 43 = .ok (.iconst 0, 1) := by decide +kernel
theorem dX14_ends_44 : decode cX14_ends 44 = .ok (.iastore, 1) := by decide +kernel
theorem dX14_ends_45 : decode cX14_ends 45 = .ok (.iload_n 3, 1) := by decide +kernel
theorem dX14_ends_46 : decode cX14_ends 46 = .ok (.ireturn, 1) := by decide +kernel
theorem dX14_leave_0 : decode cX14_leave 0 = .ok (.aload_n 0, 1) := by decide +kernel
theorem dX14_leave_1 : decode cX14_leave 1 = .ok (.iconst 0, 1) := by decide +kernel
theorem dX14_leave_2 : decode cX14_leave 2 = .ok (.putfield 112, 3) := by decide +kernel
theorem dX14_leave_5 : decode cX14_leave 5 = .ok (.aload_n 0, 1) := by decide +kernel
theorem dX14_leave_6 : decode cX14_leave 6 = .ok (.iload_n 1, 1) := by decide +kernel
theorem dX14_leave_7 : decode cX14_leave 7 = .ok (.invokevirtual 368, 3) := by decide +kernel
theorem dX14_leave_10 : decode cX14_leave 10 = .ok (.ifCond .ne 9, 3) := by decide +kernel
theorem dX14_leave_13 : decode cX14_leave 13 = .ok (.aload_n 0, 1) := by decide +kernel
theorem dX14_leave_14 : decode cX14_leave 14 = .ok (.iconst 1, 1) := by decide +kernel
theorem dX14_leave_15 : decode cX14_leave 15 = .ok (.invokevirtual 121, 3) := by decide +kernel
theorem dX14_leave_18 : decode cX14_leave 18 = .ok (.ireturn, 1) := by decide +kernel
theorem dX14_leave_19 : decode cX14_leave 19 = .ok (.aload_n 0, 1) := by decide +kernel
theorem dX14_leave_20 : decode cX14_leave 20 = .ok (.getfield 79, 3) := by decide +kernel
theorem dX14_leave_23 : decode cX14_leave 23 = .ok (.iload_n 1, 1) := by decide +kernel
theorem dX14_leave_24 : decode cX14_leave 24 = .ok (.iaload, 1) := by decide +kernel
theorem dX14_leave_25 : decode cX14_leave 25 = .ok (.iconst (-1), 1) := by decide +kernel
theorem dX14_leave_26 : decode cX14_leave 26 = .ok (.if_icmp .ne 10, 3) := by decide +kernel
theorem dX14_leave_29 : decode cX14_leave 29 = .ok (.aload_n 0, 1) := by decide +kernel
theorem dX14_leave_30 : decode cX14_leave 30 = .ok (.bipush 6, 2) := by decide +kernel
theorem dX14_leave_32 : decode cX14_leave 32 = .ok (.invokevirtual 121, 3) := by decide +kernel
theorem dX14_leave_35 : decode cX14_leave 35 = .ok (.ireturn, 1) := by decide +kernel
theorem dX14_leave_36 : decode cX14_leave 36 = .ok (.aload_n 0, 1) := by decide +kernel
theorem dX14_leave_37 : decode cX14_leave 37 = .ok (.aload_n 0, 1) := by decide +kernel
theorem dX14_leave_38 : decode cX14_leave 38 = .ok (.iload_n 1, 1) := by decide +kernel
theorem dX14_leave_39 : decode cX14_leave 39 = .ok (.invokevirtual 374, 3) := by decide +kernel
theorem dX14_leave_42 : decode cX14_leave 42 = .ok (.invokevirtual 125, 3) := by decide +kernel
theorem dX14_leave_45 : decode cX14_leave 45 = .ok (.ireturn, 1) := by decide +kernel
theorem dX14_dies_0 : decode cX14_dies 0 = .ok (.aload_n 0, 1) := by decide +kernel
theorem dX14_dies_1 : decode cX14_dies 1 = .ok (.iconst 0, 1) := by decide +kernel
theorem dX14_dies_2 : decode cX14_dies 2 = .ok (.putfield 112, 3) := by decide +kernel
theorem dX14_dies_5 : decode cX14_dies 5 = .ok (.aload_n 0, 1) := by decide +kernel
theorem dX14_dies_6 : decode cX14_dies 6 = .ok (.iload_n 1, 1) := by decide +kernel
theorem dX14_dies_7 : decode cX14_dies 7 = .ok (.invokevirtual 315, 3) := by decide +kernel
theorem dX14_dies_10 : decode cX14_dies 10 = .ok (.ifCond .ne 9, 3) := by decide +kernel
theorem dX14_dies_13 : decode cX14_dies 13 = .ok (.aload_n 0, 1) := by decide +kernel
theorem dX14_dies_14 : decode cX14_dies 14 = .ok (.iconst 1, 1) := by decide +kernel
theorem dX14_dies_15 : decode cX14_dies 15 = .ok (.invokevirtual 361, 3) := by decide +kernel
theorem dX14_dies_18 : decode cX14_dies 18 = .ok (.ireturn, 1) := by decide +kernel
theorem dX14_dies_19 : decode cX14_dies 19 = .ok (.aload_n 0, 1) := by decide +kernel
theorem dX14_dies_20 : decode cX14_dies 20 = .ok (.getfield 45, 3) := by decide +kernel
theorem dX14_dies_23 : decode cX14_dies 23 = .ok (.iload_n 1, 1) := by decide +kernel
theorem dX14_dies_24 : decode cX14_dies 24 = .ok (.iaload, 1) := by decide +kernel
theorem dX14_dies_25 : decode cX14_dies 25 = .ok (.iconst (-1), 1) := by decide +kernel
theorem dX14_dies_26 : decode cX14_dies 26 = .ok (.if_icmp .eq 9, 3) := by decide +kernel
theorem dX14_dies_29 : decode cX14_dies 29 = .ok (.aload_n 0, 1) := by decide +kernel
theorem dX14_dies_30 : decode cX14_dies 30 = .ok (.iconst 5, 1) := by decide +kernel
theorem dX14_dies_31 : decode cX14_dies 31 = .ok (.invokevirtual 361, 3) := by decide +kernel
theorem dX14_dies_34 : decode cX14_dies 34 = .ok (.ireturn, 1) := by decide +kernel
theorem dX14_dies_35 : decode cX14_dies 35 = .ok (.aload_n 0, 1) := by decide +kernel
theorem dX14_dies_36 : decode cX14_dies 36 = .ok (.getfield 45, 3) := by decide +kernel
theorem dX14_dies_39 : decode cX14_dies 39 = .ok (.iload_n 1, 1) := by decide +kernel
theorem dX14_dies_40 : decode cX14_dies 40 = .ok (.aload_n 0, 1) := by decide +kernel
theorem dX14_dies_41 : decode cX14_dies 41 = .ok (.getfield 312, 3) := by decide +kernel
theorem dX14_dies_44 : decode cX14_dies 44 = .ok (.iastore, 1) := by decide +kernel
theorem dX14_dies_45 : decode cX14_dies 45 = .ok (.aload_n 0, 1) := by decide +kernel
theorem dX14_dies_46 : decode cX14_dies 46 = .ok (.getfield 54, 3) := by decide +kernel
theorem dX14_dies_49 : decode cX14_dies 49 = .ok (.iload_n 1, 1) := by decide +kernel
theorem dX14_dies_50 : decode cX14_dies 50 = .ok (.iaload, 1) := by decide +kernel
theorem dX14_dies_51 : decode cX14_dies 51 = .ok (.iconst (-1), 1) := by decide +kernel
theorem dX14_dies_52 : decode cX14_dies 52 = .ok (.if_icmp .ne 7, 3) := by decide +kernel
theorem dX14_dies_55 : decode cX14_dies 55 = .ok (.iload_n 1, 1) := by decide +kernel
theorem dX14_dies_56 : decode cX14_dies 56 = .ok (.goto 13, 3) := by decide +kernel
theorem dX14_dies_59 : decode cX14_dies 59 = .ok (.aload_n 0, 1) := by decide +kernel
theorem dX14_dies_60 : decode cX14_dies 60 = .ok (.aload_n 0, 1) := by decide +kernel
theorem dX14_dies_61 : decode cX14_dies 61 = .ok (.getfield 54, 3) := by decide +kernel
theorem dX14_dies_64 : decode cX14_dies 64 = .ok (.iload_n 1, 1) := by decide +kernel
theorem dX14_dies_65 : decode cX14_dies 65 = .ok (.iaload, 1) := by decide +kernel
theorem dX14_dies_66 : decode cX14_dies 66 = .ok (.invokevirtual 374, 3) := by decide +kernel
theorem dX14_dies_69 : decode cX14_dies 69 = .ok (.istore_n 2, 1) := by decide +kernel
theorem dX14_dies_70 : decode cX14_dies 70 = .ok (.aload_n 0, 1) := by decide +kernel
theorem dX14_dies_71 : decode cX14_dies 71 = .ok (.getfield 48, 3) := by decide +kernel
theorem dX14_dies_74 : decode cX14_dies 74 = .ok (.iload_n 2, 1) := by decide +kernel
theorem dX14_dies_75 : decode cX14_dies 75 = .ok (.iconst 0, 1) := by decide +kernel
theorem dX14_dies_76 : decode cX14_dies 76 = .ok (.iastore, 1) := by decide +kernel
theorem dX14_dies_77 : decode cX14_dies 77 = .ok (.aload_n 0, 1) := by decide +kernel
theorem dX14_dies_78 : decode cX14_dies 78 = .ok (.invokevirtual 364, 3) := by decide +kernel
theorem dX14_dies_81 : decode cX14_dies 81 = .ok (.ireturn, 1) := by decide +kernel
theorem dX14_roomOf_0 : decode cX14_roomOf 0 = .ok (.aload_n 0, 1) := by decide +kernel
theorem dX14_roomOf_1 : decode cX14_roomOf 1 = .ok (.iconst 0, 1) := by decide +kernel
theorem dX14_roomOf_2 : decode cX14_roomOf 2 = .ok (.putfield 112, 3) := by decide +kernel
theorem dX14_roomOf_5 : decode cX14_roomOf 5 = .ok (.aload_n 0, 1) := by decide +kernel
theorem dX14_roomOf_6 : decode cX14_roomOf 6 = .ok (.iload_n 1, 1) := by decide +kernel
theorem dX14_roomOf_7 : decode cX14_roomOf 7 = .ok (.invokevirtual 368, 3) := by decide +kernel
theorem dX14_roomOf_10 : decode cX14_roomOf 10 = .ok (.ifCond .ne 5, 3) := by decide +kernel
theorem dX14_roomOf_13 : decode cX14_roomOf 13 = .ok (.iconst (-1), 1) := by decide +kernel
theorem dX14_roomOf_14 : decode cX14_roomOf 14 = .ok (.ireturn, 1) := by decide +kernel
theorem dX14_roomOf_15 : decode cX14_roomOf 15 = .ok (.aload_n 0, 1) := by decide +kernel
theorem dX14_roomOf_16 : decode cX14_roomOf 16 = .ok (.getfield 79, 3) := by decide +kernel
theorem dX14_roomOf_19 : decode cX14_roomOf 19 = .ok (.iload_n 1, 1) := by decide +kernel
theorem dX14_roomOf_20 : decode cX14_roomOf 20 = .ok (.iaload, 1) := by decide +kernel
theorem dX14_roomOf_21 : decode cX14_roomOf 21 = .ok (.istore_n 3, 1) := by decide +kernel
theorem dX14_roomOf_22 : decode cX14_roomOf 22 = .ok (.iload_n 2, 1) := by decide +kernel
theorem dX14_roomOf_23 : decode cX14_roomOf 23 = .ok (.tableswitch 77 0 3 #[29, 36, 53, 70], 29) := by decide +kernel
theorem dX14_roomOf_52 : decode cX14_roomOf 52 = .ok (.aload_n 0, 1) := by decide +kernel
theorem dX14_roomOf_53 : decode cX14_roomOf 53 = .ok (.getfield 76, 3) := by decide +kernel
theorem dX14_roomOf_56 : decode cX14_roomOf 56 = .ok (.iload_n 1, 1) := by decide +kernel
theorem dX14_roomOf_57 : decode cX14_roomOf 57 = .ok (.iaload, 1) := by decide +kernel
theorem dX14_roomOf_58 : decode cX14_roomOf 58 = .ok (.ireturn, 1) := by decide +kernel
theorem dX14_roomOf_59 : decode cX14_roomOf 59 = .ok (.iload_n 3, 1) := by decide +kernel
theorem dX14_roomOf_60 : decode cX14_roomOf 60 = .ok (.iconst (-1), 1) := by decide +kernel
theorem dX14_roomOf_61 : decode cX14_roomOf 61 = .ok (.if_icmp .ne 8, 3) := by decide +kernel
theorem dX14_roomOf_64 : decode cX14_roomOf 64 = .ok (.bipush (-2), 2) := by decide +kernel
theorem dX14_roomOf_66 : decode cX14_roomOf 66 = .ok (.goto 9, 3) := by decide +kernel
theorem dX14_roomOf_69 : decode cX14_roomOf 69 = .ok (.aload_n 0, 1) := by decide +kernel
theorem dX14_roomOf_70 : decode cX14_roomOf 70 = .ok (.getfield 88, 3) := by decide +kernel
theorem dX14_roomOf_73 : decode cX14_roomOf 73 = .ok (.iload_n 3, 1) := by decide +kernel
theorem dX14_roomOf_74 : decode cX14_roomOf 74 = .ok (.iaload, 1) := by decide +kernel
theorem dX14_roomOf_75 : decode cX14_roomOf 75 = .ok (.ireturn, 1) := by decide +kernel
theorem dX14_roomOf_76 : decode cX14_roomOf 76 = .ok (.iload_n 3, 1) := by decide +kernel
theorem dX14_roomOf_77 : decode cX14_roomOf 77 = .ok (.iconst (-1), 1) := by decide +kernel
theorem dX14_roomOf_78 : decode cX14_roomOf 78 = .ok (.if_icmp .ne 8, 3) := by decide +kernel
theorem dX14_roomOf_81 : decode cX14_roomOf 81 = .ok (.bipush (-2), 2) := by decide +kernel
theorem dX14_roomOf_83 : decode cX14_roomOf 83 = .ok (.goto 9, 3) := by decide +kernel
theorem dX14_roomOf_86 : decode cX14_roomOf 86 = .ok (.aload_n 0, 1) := by decide +kernel
theorem dX14_roomOf_87 : decode cX14_roomOf 87 = .ok (.getfield 91, 3) := by decide +kernel
theorem dX14_roomOf_90 : decode cX14_roomOf 90 = .ok (.iload_n 3, 1) := by decide +kernel
theorem dX14_roomOf_91 : decode cX14_roomOf 91 = .ok (.iaload, 1) := by decide +kernel
theorem dX14_roomOf_92 : decode cX14_roomOf 92 = .ok (.ireturn, 1) := by decide +kernel
theorem dX14_roomOf_93 : decode cX14_roomOf 93 = .ok (.aload_n 0, 1) := by decide +kernel
theorem dX14_roomOf_94 : decode cX14_roomOf 94 = .ok (.getfield 82, 3) := by decide +kernel
theorem dX14_roomOf_97 : decode cX14_roomOf 97 = .ok (.iload_n 1, 1) := by decide +kernel
theorem dX14_roomOf_98 : decode cX14_roomOf 98 = .ok (.iaload, 1) := by decide +kernel
theorem dX14_roomOf_99 : decode cX14_roomOf 99 = .ok (.ireturn, 1) := by decide +kernel
theorem dX14_roomOf_100 : decode cX14_roomOf 100 = .ok (.iconst (-1), 1) := by decide +kernel
theorem dX14_roomOf_101 : decode cX14_roomOf 101 = .ok (.ireturn, 1) := by decide +kernel
theorem dX14_had_0 : decode cX14_had 0 = .ok (.aload_n 0, 1) := by decide +kernel
theorem dX14_had_1 : decode cX14_had 1 = .ok (.iconst 0, 1) := by decide +kernel
theorem dX14_had_2 : decode cX14_had 2 = .ok (.putfield 112, 3) := by decide +kernel
theorem dX14_had_5 : decode cX14_had 5 = .ok (.aload_n 0, 1) := by decide +kernel
theorem dX14_had_6 : decode cX14_had 6 = .ok (.iload_n 1, 1) := by decide +kernel
theorem dX14_had_7 : decode cX14_had 7 = .ok (.invokevirtual 368, 3) := by decide +kernel
theorem dX14_had_10 : decode cX14_had 10 = .ok (.ifCond .eq 15, 3) := by decide +kernel
theorem dX14_had_13 : decode cX14_had 13 = .ok (.iload_n 2, 1) := by decide +kernel
theorem dX14_had_14 : decode cX14_had 14 = .ok (.ifCond .lt 11, 3) := by decide +kernel
theorem dX14_had_17 : decode cX14_had 17 = .ok (.iload_n 2, 1) := by decide +kernel
theorem dX14_had_18 : decode cX14_had 18 = .ok (.aload_n 0, 1) := by decide +kernel
theorem dX14_had_19 : decode cX14_had 19 = .ok (.getfield 312, 3) := by decide +kernel
theorem dX14_had_22 : decode cX14_had 22 = .ok (.if_icmp .lt 5, 3) := by decide +kernel
theorem dX14_had_25 : decode cX14_had 25 = .ok (.iconst (-1), 1) := by decide +kernel
theorem dX14_had_26 : decode cX14_had 26 = .ok (.ireturn, 1) := by decide +kernel
theorem dX14_had_27 : decode cX14_had 27 = .ok (.bipush (-2), 2) := by decide +kernel
theorem dX14_had_29 : decode cX14_had 29 = .ok (.istore_n 3, 1) := by decide +kernel
theorem dX14_had_30 : decode cX14_had 30 = .ok (.iconst 0, 1) := by decide +kernel
theorem dX14_had_31 : decode cX14_had 31 = .ok (.istore 4, 2) := by decide +kernel
theorem dX14_had_33 : decode cX14_had 33 = .ok (.iload 4, 2) := by decide +kernel
theorem dX14_had_35 : decode cX14_had 35 = .ok (.aload_n 0, 1) := by decide +kernel
theorem dX14_had_36 : decode cX14_had 36 = .ok (.getfield 371, 3) := by decide +kernel
theorem dX14_had_39 : decode cX14_had 39 = .ok (.if_icmp .ge 61, 3) := by decide +kernel
theorem dX14_had_42 : decode cX14_had 42 = .ok (.aload_n 0, 1) := by decide +kernel
theorem dX14_had_43 : decode cX14_had 43 = .ok (.getfield 85, 3) := by decide +kernel
theorem dX14_had_46 : decode cX14_had 46 = .ok (.iload 4, 2) := by decide +kernel
theorem dX14_had_48 : decode cX14_had 48 = .ok (.iaload, 1) := by decide +kernel
theorem dX14_had_49 : decode cX14_had 49 = .ok (.iload_n 1, 1) := by decide +kernel
theorem dX14_had_50 : decode cX14_had 50 = .ok (.if_icmp .ne 44, 3) := by decide +kernel
theorem dX14_had_53 : decode cX14_had 53 = .ok (.aload_n 0, 1) := by decide +kernel
theorem dX14_had_54 : decode cX14_had 54 = .ok (.getfield 91, 3) := by decide +kernel
theorem dX14_had_57 : decode cX14_had 57 = .ok (.iload 4, 2) := by decide +kernel
theorem dX14_had_59 : decode cX14_had 59 = .ok (.iaload, 1) := by decide +kernel
theorem dX14_had_60 : decode cX14_had 60 = .ok (.iload_n 2, 1) := by decide +kernel
theorem dX14_had_61 : decode cX14_had 61 = .ok (.if_icmp .gt 33, 3) := by decide +kernel
theorem dX14_had_64 : decode cX14_had 64 = .ok (.aload_n 0, 1) := by decide +kernel
theorem dX14_had_65 : decode cX14_had 65 = .ok (.getfield 94, 3) := by decide +kernel
theorem dX14_had_68 : decode cX14_had 68 = .ok (.iload 4, 2) := by decide +kernel
theorem dX14_had_70 : decode cX14_had 70 = .ok (.iaload, 1) := by decide +kernel
theorem dX14_had_71 : decode cX14_had 71 = .ok (.iconst (-1), 1) := by decide +kernel
theorem dX14_had_72 : decode cX14_had 72 = .ok (.if_icmp .eq 14, 3) := by decide +kernel
theorem dX14_had_75 : decode cX14_had 75 = .ok (.aload_n 0, 1) := by decide +kernel
theorem dX14_had_76 : decode cX14_had 76 = .ok (.getfield 94, 3) := by decide +kernel
theorem dX14_had_79 : decode cX14_had 79 = .ok (.iload 4, 2) := by decide +kernel
theorem dX14_had_81 : decode cX14_had 81 = .ok (.iaload, 1) := by decide +kernel
theorem dX14_had_82 : decode cX14_had 82 = .ok (.iload_n 2, 1) := by decide +kernel
theorem dX14_had_83 : decode cX14_had 83 = .ok (.if_icmp .le 11, 3) := by decide +kernel
theorem dX14_had_86 : decode cX14_had 86 = .ok (.aload_n 0, 1) := by decide +kernel
theorem dX14_had_87 : decode cX14_had 87 = .ok (.getfield 88, 3) := by decide +kernel
theorem dX14_had_90 : decode cX14_had 90 = .ok (.iload 4, 2) := by decide +kernel
theorem dX14_had_92 : decode cX14_had 92 = .ok (.iaload, 1) := by decide +kernel
theorem dX14_had_93 : decode cX14_had 93 = .ok (.istore_n 3, 1) := by decide +kernel
theorem dX14_had_94 : decode cX14_had 94 = .ok (.iinc 4 1, 3) := by decide +kernel
theorem dX14_had_97 : decode cX14_had 97 = .ok (.goto (-64), 3) := by decide +kernel
theorem dX14_had_100 : decode cX14_had 100 = .ok (.iload_n 3, 1) := by decide +kernel
theorem dX14_had_101 : decode cX14_had 101 = .ok (.ireturn, 1) := by decide +kernel
theorem dX14_land_0 : decode cX14_land 0 = .ok (.aload_n 0, 1) := by decide +kernel
theorem dX14_land_1 : decode cX14_land 1 = .ok (.iconst 0, 1) := by decide +kernel
theorem dX14_land_2 : decode cX14_land 2 = .ok (.putfield 112, 3) := by decide +kernel
theorem dX14_land_5 : decode cX14_land 5 = .ok (.iload_n 1, 1) := by decide +kernel
theorem dX14_land_6 : decode cX14_land 6 = .ok (.iconst 0, 1) := by decide +kernel
theorem dX14_land_7 : decode cX14_land 7 = .ok (.sipush 9999, 3) := by decide +kernel
theorem dX14_land_10 : decode cX14_land 10 = .ok (.invokestatic 231, 3) := by decide +kernel
theorem dX14_land_13 : decode cX14_land 13 = .ok (.ifCond .eq 30, 3) := by decide +kernel
theorem dX14_land_16 : decode cX14_land 16 = .ok (.iload_n 2, 1) := by decide +kernel
theorem dX14_land_17 : decode cX14_land 17 = .ok (.iconst 1, 1) := by decide +kernel
theorem dX14_land_18 : decode cX14_land 18 = .ok (.sipush 400, 3) := by decide +kernel
theorem dX14_land_21 : decode cX14_land 21 = .ok (.invokestatic 231, 3) := by decide +kernel
theorem dX14_land_24 : decode cX14_land 24 = .ok (.ifCond .eq 19, 3) := by decide +kernel
theorem dX14_land_27 : decode cX14_land 27 = .ok (.iload_n 3, 1) := by decide +kernel
theorem dX14_land_28 : decode cX14_land 28 = .ok (.aload_n 0, 1) := by decide +kernel
theorem dX14_land_29 : decode cX14_land 29 = .ok (.getfield 312, 3) := by decide +kernel
theorem dX14_land_32 : decode cX14_land 32 = .ok (.iconst 1, 1) := by decide +kernel
theorem dX14_land_33 : decode cX14_land 33 = .ok (.iadd, 1) := by decide +kernel
theorem dX14_land_34 : decode cX14_land 34 = .ok (.ldc_w 273, 3) := by decide +kernel
theorem dX14_land_37 : decode cX14_land 37 = .ok (.invokestatic 231, 3) := by decide +kernel
theorem dX14_land_40 : decode cX14_land 40 = .ok (.ifCond .ne 9, 3) := by decide +kernel
theorem dX14_land_43 : decode cX14_land 43 = .ok (.aload_n 0, 1) := by decide +kernel
theorem dX14_land_44 : decode cX14_land 44 = .ok (.iconst 2, 1) := by decide +kernel
theorem dX14_land_45 : decode cX14_land 45 = .ok (.invokevirtual 121, 3) := by decide +kernel
theorem dX14_land_48 : decode cX14_land 48 = .ok (.ireturn, 1) := by decide +kernel
theorem dX14_land_49 : decode cX14_land 49 = .ok (.aload_n 0, 1) := by decide +kernel
theorem dX14_land_50 : decode cX14_land 50 = .ok (.getfield 377, 3) := by decide +kernel
theorem dX14_land_53 : decode cX14_land 53 = .ok (.bipush 10, 2) := by decide +kernel
theorem dX14_land_55 : decode cX14_land 55 = .ok (.if_icmp .ne 9, 3) := by decide +kernel
theorem dX14_land_58 : decode cX14_land 58 = .ok (.aload_n 0, 1) := by decide +kernel
theorem dX14_land_59 : decode cX14_land 59 = .ok (.iconst 3, 1) := by decide +kernel
theorem dX14_land_60 : decode cX14_land 60 = .ok (.invokevirtual 121, 3) := by decide +kernel
theorem dX14_land_63 : decode cX14_land 63 = .ok (.ireturn, 1) := by decide +kernel
theorem dX14_land_64 : decode cX14_land 64 = .ok (.aload_n 0, 1) := by decide +kernel
